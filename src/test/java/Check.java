/** Counts the answers that are not the due ones, and prints them. */
final class Check {
    static final String INDEX = "IndexOutOfBoundsException";
    static final String ARGUMENT = "IllegalArgumentException";
    static final String STATE = "IllegalStateException";

    private static String subject = "";
    private static int asked = 0;
    private static int wrong = 0;

    private Check() {
    }

    /** What the checks from here on are about; it is printed with each wrong answer. */
    static void about(String text) {
        subject = text;
    }

    static int asked() {
        return asked;
    }

    static void same(String call, long got, long due) {
        asked++;
        if (got != due) {
            wrong++;
            System.out.println(subject + call + " answered " + got + ", due is " + due);
        }
    }

    static void sameText(String call, String got, String due) {
        asked++;
        if (!got.equals(due)) {
            wrong++;
            System.out.println(subject + call + " answered " + got + ", due is " + due);
        }
    }

    /** The call must throw just this exception, and leave the object's digest as it was. */
    static void refused(String call, AreaPicker picker, String due, Runnable asks) {
        long before = picker.digest();
        String got = "nothing";
        try {
            asks.run();
        } catch (RuntimeException e) {
            got = e.getClass().getSimpleName();
        }
        sameText(call + " throws", got, due);
        same(call + " leaves the digest", picker.digest(), before);
    }

    static void close() {
        if (wrong > 0) {
            System.out.println(wrong + " of " + asked + " answers are not as due");
            System.exit(1);
        }
    }
}
