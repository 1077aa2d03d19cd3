/** The bounds that the promises 9 to 13 name: append, clearBuffer, firstError, load, undo. */
final class BoundsOfTexts {
    private static final String SIXTY = "0:0123456789012345/1:0123456789012345/2:0123456789012345/3:0";

    private BoundsOfTexts() {
    }

    static void ask() {
        Doc.section("Promise 9");
        Doc.test("Appends a character to the buffer.", BoundsOfTexts::appendsBehind);
        Doc.test("`code`: the character code, 33 to 126", () -> Bound.takes("code", Given::bare, 33, 126, Check.ARGUMENT,
                AreaPicker::append, n -> 5));
        Doc.test("Returns the new length of the buffer.", BoundsOfTexts::appendAnswers);
        Doc.test("Throws `IllegalArgumentException` if code is not 33 to 126", BoundsOfTexts::appendWrongly);
        Doc.test("Throws `IllegalStateException` if the buffer has 60 characters", BoundsOfTexts::appendToSixty);
        Doc.section("Promise 10");
        Doc.test("Clears the buffer.", BoundsOfTexts::clears);
        Doc.test("Returns the length that it had.", BoundsOfTexts::clearAnswers);
        Doc.section("Promise 11");
        Doc.test("Finds the first syntax error of the buffer.", BoundsOfTexts::findsTheFirst);
        Doc.test("Returns the index of the first character that is a syntax error; the length of the buffer if there is "
                + "none.", BoundsOfTexts::errorAnswers);
        Doc.section("Promise 12");
        Doc.test("Puts the shades in the buffer into the picture, row after row as they are written, and clears the buffer.",
                BoundsOfTexts::putsRows);
        Doc.test("Undoable.", BoundsOfTexts::loadIsUndoable);
        Doc.test("Returns how many cells have another shade then than before the call.", BoundsOfTexts::loadCounts);
        Doc.test("Throws `IllegalArgumentException` if the buffer is not a complete picture text",
                BoundsOfTexts::notComplete);
        Doc.section("Promise 13");
        Doc.test("Restores the latest saved state, and drops it.", BoundsOfTexts::restoresTheLatest);
        Doc.test("Returns how many saved states are left.", BoundsOfTexts::undoAnswers);
        Doc.test("Throws `IllegalStateException` if there is none", BoundsOfTexts::noneIsSaved);
    }

    private static AreaPicker sixty() {
        AreaPicker p = Given.busy();
        p.clearBuffer();
        Given.type(p, SIXTY);
        return p;
    }

    // ---- append and clearBuffer

    private static void appendsBehind() {
        AreaPicker p = Given.typed("3:12");
        p.append('3');
        Check.same("load", p.load(), 3);
        int[] due = {11, 22, 33, 50};
        for (int x = 0; x < due.length; x++) {
            Check.same("cell(" + x + ", 3, 0)", p.cell(x, 3, 0), due[x]);
        }
        AreaPicker first = new AreaPicker();
        long empty = first.digest();
        for (int code = 33; code <= 126; code++) {
            AreaPicker q = new AreaPicker();
            q.append(code);
            // The last two values are the length, 1 instead of 0, and the code.
            Check.same("digest with " + code, q.digest(), 31 * (empty + 1) + code);
        }
    }

    private static void appendAnswers() {
        AreaPicker p = new AreaPicker();
        for (int i = 1; i <= 60; i++) {
            Check.same("append", p.append(i % 2 == 0 ? 33 : 126), i);
        }
        p.clearBuffer();
        Check.same("append after clearBuffer", p.append(33), 1);
        Given.type(p, "!");
        Check.same("append then", p.append(33), 3);
    }

    private static void appendWrongly() {
        int[] codes = {32, 127, 0, 1, 10, -1, -33, 128, 255, 33 + 256, 48 + 65536, Integer.MIN_VALUE, Integer.MAX_VALUE};
        for (int code : codes) {
            Bound.refused("append(" + code + ")", Check.ARGUMENT, Given::busy, p -> p.append(code));
            Bound.refused("append(" + code + ") to nothing", Check.ARGUMENT, AreaPicker::new, p -> p.append(code));
            Bound.refused("append(" + code + ") to 60", Check.ARGUMENT, BoundsOfTexts::sixty, p -> p.append(code));
        }
    }

    private static void appendToSixty() {
        int[] codes = {33, 48, 126};
        for (int code : codes) {
            Bound.refused("append(" + code + ") to 60", Check.STATE, BoundsOfTexts::sixty, p -> p.append(code));
        }
        Check.same("append to 59", Given.typed(SIXTY.substring(1)).append(48), 60);
        AreaPicker cleared = sixty();
        cleared.clearBuffer();
        Check.same("append after clearBuffer", cleared.append(48), 1);
        AreaPicker loaded = sixty();
        loaded.load();
        Check.same("append after load", loaded.append(48), 1);
        AreaPicker undone = sixty();
        undone.undo();
        Bound.throwsJust("append after undo", Check.STATE, () -> undone.append(48));
    }

    private static void clears() {
        AreaPicker p = sixty();
        p.clearBuffer();
        Check.same("firstError of nothing", p.firstError(), 0);
        Bound.throwsJust("load of nothing", Check.ARGUMENT, p::load);
        Given.type(p, "0:.");
        Check.same("what was cleared is not loaded", p.load(), 0);
        AreaPicker q = Given.typed("0:1/x");
        q.clearBuffer();
        Given.type(q, "0:1/");
        Check.same("what was cleared is no error", q.firstError(), 4);
        AreaPicker empty = new AreaPicker();
        long digest = empty.digest();
        empty.clearBuffer();
        Check.same("clearBuffer of nothing changes nothing", empty.digest(), digest);
    }

    private static void clearAnswers() {
        for (int length = 0; length <= 60; length++) {
            AreaPicker p = Given.typed(SIXTY.substring(0, length));
            Check.same("clearBuffer with " + length, p.clearBuffer(), length);
            Check.same("clearBuffer again", p.clearBuffer(), 0);
        }
        AreaPicker refused = sixty();
        Bound.throwsJust("the 61st", Check.STATE, () -> refused.append(48));
        Check.same("clearBuffer then", refused.clearBuffer(), 60);
    }

    // ---- firstError

    private static void findsTheFirst() {
        for (int at = 0; at < 60; at++) {
            AreaPicker p = Given.typed(SIXTY.substring(0, at) + "~" + SIXTY.substring(at + 1));
            Check.same("firstError with one at " + at, p.firstError(), at);
            AreaPicker q = Given.typed(SIXTY.substring(0, at) + "~".repeat(60 - at));
            Check.same("firstError with many from " + at, q.firstError(), at);
            Check.same("firstError again", q.firstError(), at);
            Check.same("the buffer stays", q.clearBuffer(), 60);
        }
    }

    private static void errorAnswers() {
        for (int length = 0; length <= 60; length++) {
            Check.same("no error in " + length, Given.typed(SIXTY.substring(0, length)).firstError(), length);
        }
        Check.same("the 17th shade", Given.typed("0:11111111111111111").firstError(), 18);
        Check.same("the 17th shade of the second row", Given.typed("0:1/1:11111111111111111").firstError(), 22);
        Check.same("no shade", Given.typed("0:/").firstError(), 2);
        Check.same("no row", Given.typed("/").firstError(), 0);
        Check.same("no row between", Given.typed("0:1//").firstError(), 4);
        Check.same("a row of two digits", Given.typed("10:1").firstError(), 1);
    }

    // ---- load

    private static void putsRows() {
        AreaPicker p = Given.typed(SIXTY);
        Check.same("load of 60 characters", p.load(), 49);
        for (int cell = 0; cell < 160; cell++) {
            int x = cell % 16;
            int y = cell / 16;
            boolean written = y < 3 || y == 3 && x == 0;
            Check.same("cell(" + x + ", " + y + ", 0)", p.cell(x, y, 0), written ? 11 * (x % 10) : 50);
        }
        Check.same("the buffer is cleared", p.clearBuffer(), 0);
        AreaPicker least = Given.typed("9:0");
        Check.same("load of a text of three characters", least.load(), 1);
        Check.same("cell(0, 9, 0)", least.cell(0, 9, 0), 0);
        Check.same("the sum", least.count(6), 7950);
        AreaPicker order = Given.typed("9:12/0:3/9:4");
        order.load();
        Check.same("the later row stays", order.cell(0, 9, 0), 44);
        Check.same("where it has no shade the former", order.cell(1, 9, 0), 22);
        Check.same("the row between", order.cell(0, 0, 0), 33);
        AreaPicker stops = Given.typed("5:1234/5:.9../5:...");
        stops.load();
        int[] due = {11, 99, 33, 44};
        for (int x = 0; x < due.length; x++) {
            Check.same("cell(" + x + ", 5, 0) with stops", stops.cell(x, 5, 0), due[x]);
        }
        Bound.throwsJust("load again", Check.ARGUMENT, stops::load);
    }

    private static long loads(AreaPicker p, String text) {
        Given.type(p, text);
        return p.load();
    }

    private static AreaPicker calmWithoutText() {
        AreaPicker p = Given.calm();
        p.clearBuffer();
        return p;
    }

    private static void loadIsUndoable() {
        Bound.undoable("load", BoundsOfTexts::calmWithoutText, p -> loads(p, SIXTY));
        Bound.undoable("load of stops", BoundsOfTexts::calmWithoutText, p -> loads(p, "0:................"));
        Bound.undoable("load to and fro", AreaPicker::new, p -> loads(p, "0:1/0:2"));
        AreaPicker p = Given.typed(SIXTY);
        p.load();
        p.undo();
        Check.same("undo does not bring back the text", p.clearBuffer(), 0);
    }

    private static void loadCounts() {
        Check.same("none is another", loads(new AreaPicker(), "0:................"), 0);
        Check.same("one", loads(new AreaPicker(), "0:...............1"), 1);
        Check.same("a whole row", loads(new AreaPicker(), "9:1234567890123456"), 16);
        AreaPicker p = Given.typed("0:1");
        p.load();
        Check.same("the same again", loads(p, "0:1"), 0);
        Check.same("to another and back", loads(p, "0:2/0:1"), 0);
        Check.same("twice to others", loads(p, "0:2/0:3"), 1);
        Check.same("the same, then another", loads(p, "0:3/0:4"), 1);
        Check.same("many rows", loads(new AreaPicker(),
                "0:1/1:1/2:1/3:1/4:1/5:1/6:1/7:1/8:1/9:1/0:1/0:2/1:1/2:1/3:11"), 11);
    }

    private static void notComplete() {
        for (int length = 0; length < 60; length++) {
            String text = SIXTY.substring(0, length);
            // Each row has 19 characters: its number, ":", 16 shades, "/".
            int last = (length + 18) % 19;
            if (last >= 2 && last <= 17) {
                Check.sameText("load of \"" + text + "\"", Bound.answer(() -> Given.typed(text).load() * 0), "0");
            } else {
                Bound.refused("load of \"" + text + "\"", Check.ARGUMENT, () -> Given.typed(text), AreaPicker::load);
            }
        }
        for (int at = 0; at < 60; at++) {
            String text = SIXTY.substring(0, at) + "~" + SIXTY.substring(at + 1);
            Bound.refused("load of \"" + text + "\"", Check.ARGUMENT, () -> Given.typed(text), AreaPicker::load);
        }
        String[] wrong = {"0:11111111111111111", "0:1/", "0:1/1", "0:1/1:", "0:1//1:1", "/0:1", ":1", "0", "x"};
        for (String text : wrong) {
            Bound.refused("load of \"" + text + "\"", Check.ARGUMENT, () -> with(Given.busy(), text), AreaPicker::load);
        }
        AreaPicker p = Given.typed("0:1/");
        Bound.throwsJust("load of a text begun", Check.ARGUMENT, p::load);
        Given.type(p, "1:1");
        Check.same("load when it is complete", p.load(), 2);
    }

    private static AreaPicker with(AreaPicker p, String text) {
        p.clearBuffer();
        Given.type(p, text);
        return p;
    }

    // ---- undo

    private static void restoresTheLatest() {
        AreaPicker p = new AreaPicker();
        long[] digests = new long[6];
        for (int i = 0; i < 6; i++) {
            digests[i] = p.digest();
            change(p, i);
        }
        for (int i = 5; i >= 0; i--) {
            p.undo();
            Check.same("digest as before the change " + i, p.digest(), digests[i]);
        }
        change(p, 1);
        p.undo();
        Check.same("undo of a change after undo", p.digest(), digests[0]);
        AreaPicker q = new AreaPicker();
        q.draw(0, 0, 0, 0, 1);
        q.draw(0, 0, 0, 0, 2);
        q.undo();
        q.draw(0, 0, 0, 0, 3);
        q.undo();
        Check.same("the latest is that from before 3", q.cell(0, 0, 0), 1);
        q.undo();
        Check.same("the one before it", q.cell(0, 0, 0), 50);
    }

    private static void change(AreaPicker p, int which) {
        switch (which) {
            case 0:
                p.draw(2, 2, 9, 7, 80);
                break;
            case 1:
                p.pick(5, 5, 0, 0, 0, 40);
                break;
            case 2:
                p.fill(11);
                break;
            case 3:
                p.setKind(0, 1);
                break;
            case 4:
                p.toggle(0);
                break;
            default:
                p.clean();
                break;
        }
    }

    private static void undoAnswers() {
        for (int calls = 1; calls <= 9; calls++) {
            AreaPicker p = new AreaPicker();
            for (int i = 0; i < calls; i++) {
                p.clean();
            }
            for (int left = Math.min(calls, 6) - 1; left >= 0; left--) {
                Check.same("undo after " + calls, p.undo(), left);
                Check.same("count(8) then", p.count(8), left);
            }
        }
    }

    private static void noneIsSaved() {
        Bound.refused("undo of a new object", Check.STATE, AreaPicker::new, AreaPicker::undo);
        Bound.refused("undo with a text alone", Check.STATE, () -> Given.typed("0:1"), AreaPicker::undo);
        Bound.refused("undo after all are undone", Check.STATE, Given::calm, AreaPicker::undo);
        AreaPicker p = new AreaPicker();
        for (int i = 0; i < 7; i++) {
            p.draw(0, 0, 0, 0, i);
        }
        for (int i = 0; i < 6; i++) {
            p.undo();
        }
        Bound.throwsJust("the seventh undo", Check.STATE, p::undo);
        Check.same("the oldest one is dropped", p.cell(0, 0, 0), 0);
        Bound.throwsJust("the eighth undo", Check.STATE, p::undo);
        p.clean();
        Check.same("undo after a call", p.undo(), 0);
    }
}
