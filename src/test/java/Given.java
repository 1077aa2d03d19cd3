/** Pictures that the tests begin with. */
final class Given {
    private Given() {
    }

    static void type(AreaPicker picker, String text) {
        for (int i = 0; i < text.length(); i++) {
            picker.append(text.charAt(i));
        }
    }

    /** Puts a text into the picture, however long it is, row after row. */
    static AreaPicker picture(String... rows) {
        AreaPicker picker = new AreaPicker();
        for (int row = 0; row < rows.length; row++) {
            type(picker, row + ":" + rows[row]);
            picker.load();
        }
        return picker;
    }

    /** A wall of the shade 90 in the column 4, with a passage of one cell in the row 4. */
    static AreaPicker wallWithDoor() {
        AreaPicker picker = new AreaPicker();
        picker.draw(4, 0, 4, 9, 90);
        picker.draw(4, 4, 4, 4, 50);
        return picker;
    }
}
