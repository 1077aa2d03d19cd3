public final class NewObjectTest {
    public static void main(String[] args) {
        if (new AreaPicker().count(6) != 8000) {
            System.out.println("count(6) of a new object is not 8000");
            System.exit(1);
        }
    }
}
