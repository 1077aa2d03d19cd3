/** Promises 9 to 13: append, clearBuffer, firstError, load, undo. */
public final class TextsTest {
    public static void main(String[] args) {
        appendTakesCodes();
        appendRefuses();
        firstErrors();
        loadWritesRows();
        loadCountsAgainstThePictureBefore();
        loadRefuses();
        undoRestores();
        undoKeepsSix();
        Check.close();
    }

    private static void appendTakesCodes() {
        AreaPicker p = new AreaPicker();
        for (int code = 33; code <= 92; code++) {
            Check.same("append(" + code + ")", p.append(code), code - 32);
        }
        Check.same("clearBuffer", p.clearBuffer(), 60);
        Check.same("clearBuffer again", p.clearBuffer(), 0);
        for (int code = 93; code <= 126; code++) {
            Check.same("append(" + code + ")", p.append(code), code - 92);
        }
        Check.same("clearBuffer", p.clearBuffer(), 34);
        Check.same("nothing is saved by that", p.count(8), 0);
    }

    private static void appendRefuses() {
        AreaPicker p = new AreaPicker();
        int[] codes = {32, 127, 0, -1, 48 + 256, Integer.MIN_VALUE, Integer.MAX_VALUE};
        for (int code : codes) {
            Check.refused("append(" + code + ")", p, Check.ARGUMENT, () -> p.append(code));
        }
        Given.type(p, "0:0123456789012345/1:0123456789012345/2:0123456789012345/3:0");
        Check.refused("the 61st character", p, Check.STATE, () -> p.append(48));
        Check.refused("the 61st, wrong code", p, Check.ARGUMENT, () -> p.append(32));
        Check.same("no error in 60", p.firstError(), 60);
        Check.same("load of 60", p.load(), 49);
        Check.same("the buffer is free then", p.append(48), 1);
    }

    private static void firstErrors() {
        String[] texts = {
            "", "7", "7:", "7:.", "7:1/", "7:1/0", "7:1/0:", "7:1/7:2", "0:0123456789.12345",
            "0:0123456789.12345/", "9:................/9:9",
        };
        for (String text : texts) {
            Check.same("firstError of " + text, errorOf(text), text.length());
        }
        Check.same("firstError of :", errorOf(":"), 0);
        Check.same("firstError of .", errorOf(".0:1"), 0);
        Check.same("firstError of /", errorOf("/0:1"), 0);
        Check.same("firstError of a", errorOf("a"), 0);
        Check.same("firstError of 00", errorOf("00"), 1);
        Check.same("firstError of 0.", errorOf("0."), 1);
        Check.same("firstError of 0/", errorOf("0/"), 1);
        Check.same("firstError of 0:/", errorOf("0:/"), 2);
        Check.same("firstError of 0::", errorOf("0::"), 2);
        Check.same("firstError of 0:1:", errorOf("0:1:"), 3);
        Check.same("firstError of 0:1//", errorOf("0:1//"), 4);
        Check.same("firstError of 0:1/:", errorOf("0:1/:"), 4);
        Check.same("firstError of 0:1/.", errorOf("0:1/."), 4);
        Check.same("firstError of 0:1,1", errorOf("0:1,1"), 3);
        Check.same("17 shades", errorOf("0:01234567890123456"), 18);
        Check.same("17 shades with .", errorOf("0:................."), 18);
        Check.same("17 shades in the second row", errorOf("0:1/1:01234567890123456"), 22);
        Check.same("two errors", errorOf("x:y"), 0);
        AreaPicker p = new AreaPicker();
        Given.type(p, "0:123:45");
        p.clearBuffer();
        Given.type(p, "0:12");
        Check.same("what was cleared is no error", p.firstError(), 4);
        Check.same("nor is it loaded", p.load(), 2);
        Check.same("cell(2, 0, 0)", p.cell(2, 0, 0), 50);
    }

    private static int errorOf(String text) {
        AreaPicker p = new AreaPicker();
        Given.type(p, text);
        int first = p.firstError();
        Check.same("firstError of " + text + " again", p.firstError(), first);
        Check.same("the buffer stays", p.clearBuffer(), text.length());
        return first;
    }

    private static void loadWritesRows() {
        AreaPicker p = new AreaPicker();
        Given.type(p, "0:0123456789/9:9.........543210.");
        Check.same("firstError", p.firstError(), 31);
        Given.type(p, "/4:.7");
        p.clearBuffer();
        Given.type(p, "0:0123456789/9:9.........54321");
        Check.same("load", p.load(), 16);
        for (int x = 0; x < 10; x++) {
            Check.same("cell(" + x + ", 0, 0)", p.cell(x, 0, 0), 11 * x);
        }
        Check.same("beyond the text", p.cell(10, 0, 0), 50);
        Check.same("cell(0, 9, 0)", p.cell(0, 9, 0), 99);
        Check.same("stays", p.cell(1, 9, 0), 50);
        Check.same("cell(10, 9, 0)", p.cell(10, 9, 0), 55);
        Check.same("cell(14, 9, 0)", p.cell(14, 9, 0), 11);
        Check.same("cell(15, 9, 0)", p.cell(15, 9, 0), 50);
        Check.same("the buffer is empty", p.clearBuffer(), 0);
        Check.same("saved", p.count(8), 1);
        Given.type(p, "3:................");
        Check.same("load of dots", p.load(), 0);
        Check.same("is saved all the same", p.count(8), 2);
    }

    private static void loadCountsAgainstThePictureBefore() {
        AreaPicker p = new AreaPicker();
        Given.type(p, "3:123/3:.5/3:4");
        Check.same("load of a row three times", p.load(), 3);
        Check.same("the last one stays", p.cell(0, 3, 0), 44);
        Check.same("the second one stays", p.cell(1, 3, 0), 55);
        Check.same("the first one stays", p.cell(2, 3, 0), 33);
        Given.type(p, "3:9/3:4");
        Check.same("load to and fro", p.load(), 0);
        Check.same("cell(0, 3, 0)", p.cell(0, 3, 0), 44);
    }

    private static void loadRefuses() {
        String[] texts = {"", "3", "3:", "3:1/", "3:1/4", "3:1/4:", "3:1/4:x", "x", "3:01234567890123456", "3:1 "};
        for (String text : texts) {
            AreaPicker p = new AreaPicker();
            Given.type(p, text.replace(' ', '~'));
            Check.refused("load of " + text, p, Check.ARGUMENT, () -> p.load());
            Check.same("the buffer of " + text + " stays", p.clearBuffer(), text.length());
            Check.same("the picture of " + text + " stays", p.count(6), 8000);
        }
        AreaPicker p = new AreaPicker();
        Given.type(p, "3:1/");
        Check.refused("load, not complete", p, Check.ARGUMENT, () -> p.load());
        Given.type(p, "3:2");
        Check.same("completed", p.load(), 1);
    }

    private static void undoRestores() {
        AreaPicker p = new AreaPicker();
        Given.type(p, "0:1");
        p.load();
        Given.type(p, "1:2");
        Check.same("undo of load", p.undo(), 0);
        Check.same("the picture", p.count(6), 8000);
        Check.same("the buffer is not restored", p.clearBuffer(), 3);
        Check.refused("undo", p, Check.STATE, () -> p.undo());
        long before = p.digest();
        p.draw(0, 0, 3, 3, 4);
        p.pick(0, 0, 0, 0, 1, 21);
        p.fill(80);
        p.setKind(0, 0);
        p.toggle(0);
        p.clean();
        Check.same("undo of clean", p.undo(), 5);
        Check.same("the pick is out", p.picked(0, 7), 0);
        p.undo();
        Check.same("undo of toggle", p.picked(0, 7), 1);
        p.undo();
        Check.same("undo of setKind", p.picked(0, 5), 1);
        p.undo();
        Check.same("undo of fill", p.cell(0, 0, 0), 4);
        p.undo();
        Check.same("undo of pick", p.count(0), 0);
        Check.same("undo of draw", p.undo(), 0);
        Check.same("all is as before", p.digest(), before);
    }

    private static void undoKeepsSix() {
        AreaPicker p = new AreaPicker();
        for (int i = 1; i <= 8; i++) {
            p.draw(0, 0, 0, 0, i);
            Check.same("saved after " + i, p.count(8), Math.min(i, 6));
        }
        for (int i = 5; i >= 0; i--) {
            Check.same("undo to " + i, p.undo(), i);
            Check.same("shade after undo to " + i, p.cell(0, 0, 0), i + 2);
        }
        Check.refused("undo of the dropped one", p, Check.STATE, () -> p.undo());
        p.draw(0, 0, 0, 0, 77);
        Check.same("saved then", p.count(8), 1);
        Check.same("undo then", p.undo(), 0);
        Check.same("shade then", p.cell(0, 0, 0), 2);
        notSaved(p);
    }

    /** What is not undoable, and what throws, saves nothing. */
    private static void notSaved(AreaPicker p) {
        p.append('0');
        p.clearBuffer();
        p.firstError();
        p.cell(0, 0, 0);
        p.count(4);
        p.areaOf(0, 0, 0, 0, 0);
        p.leastLikeness(0, 0, 1, 1, 0, 0);
        p.partingGap(0, 0, 1, 1, 0);
        p.areas(0);
        p.coverage();
        p.digest();
        Check.refused("toggle(0)", p, Check.INDEX, () -> p.toggle(0));
        Check.same("saved after questions", p.count(8), 0);
    }
}
