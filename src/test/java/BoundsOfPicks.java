/** The bounds that the promises 4 to 8 name: pick, toggle, setKind, reorder, clean. */
final class BoundsOfPicks {
    private static final String NO_PICK = "Throws `IndexOutOfBoundsException` if there is no such pick";

    /** The columns of the first cells of the picks in Given.busy(). */
    private static final int[] FIRST = {0, 4, 15};

    private BoundsOfPicks() {
    }

    static void ask() {
        Doc.section("Promise 4");
        Doc.test("Makes a pick from a cell.", BoundsOfPicks::makesAPick);
        Doc.test("Undoable.", BoundsOfPicks::pickIsUndoable);
        pickArguments();
        Doc.test("Returns the number of cells of the area.", BoundsOfPicks::pickCounts);
        Doc.test("Throws `IndexOutOfBoundsException` if there is no such cell", BoundsOfPicks::pickOutside);
        Doc.test("Throws `IllegalArgumentException` if another argument is out of range", BoundsOfPicks::pickWrongly);
        Doc.test("Throws `IllegalStateException` if there are 12 picks", BoundsOfPicks::pickAThirteenth);
        Doc.section("Promise 5");
        Doc.test("Puts a pick out, or in again.", BoundsOfPicks::togglesOutAndIn);
        Doc.test("Undoable.", BoundsOfPicks::toggleIsUndoable);
        Doc.test("`pick`: its number", () -> Bound.takes("pick", Given::busy, 0, 2, Check.INDEX,
                AreaPicker::toggle, n -> n == 1 ? 1 : 0));
        Doc.test("Returns 1 if it is in then, else 0.", BoundsOfPicks::toggleAnswers);
        Doc.test(NO_PICK, () -> noSuchPick("toggle", AreaPicker::toggle));
        kindSentences();
        orderSentences();
        cleanSentences();
    }

    private static void pickArguments() {
        Doc.test("`x`: column of the cell", () -> Bound.takes("x", Given::bare, 0, 15, Check.INDEX,
                (p, n) -> 1000 * p.pick(n, 4, 0, 0, 0, 0) + p.picked(1, 0), n -> 160000 + n));
        Doc.test("`y`: its row", () -> Bound.takes("y", Given::bare, 0, 9, Check.INDEX,
                (p, n) -> 1000 * p.pick(4, n, 0, 0, 0, 0) + p.picked(1, 1), n -> 160000 + n));
        Doc.test("`likeness`: 0 to 99", () -> Bound.takes("likeness", Given::columns, 0, 99, Check.ARGUMENT,
                (p, n) -> 1000 * p.pick(0, 0, n, 0, 0, 0) + p.picked(0, 2), n -> 10000 * Math.min(n / 5 + 1, 16) + n));
        Doc.test("`way`: 0 or 1", () -> Bound.takes("way", Given::columns, 0, 1, Check.ARGUMENT,
                (p, n) -> 1000 * p.pick(0, 0, 5, n, 0, 0) + p.picked(0, 3), n -> n == 0 ? 20000 : 160001));
        Doc.test("`gap`: 0 to 5", () -> Bound.takes("gap", () -> Given.wallWithPassage(3), 0, 5, Check.ARGUMENT,
                (p, n) -> 1000 * p.pick(0, 0, 0, 0, n, 0) + p.picked(0, 4), n -> (n < 3 ? 153000 : 70000) + n));
        Doc.test("`kind`: the kind of the pick, 0 to 3, plus 10 times its softness, 0 to 4", BoundsOfPicks::kinds);
    }

    private static void kindSentences() {
        Doc.section("Promise 6");
        Doc.test("Changes the kind of a pick.", BoundsOfPicks::changesTheKind);
        Doc.test("Undoable.", BoundsOfPicks::setKindIsUndoable);
        Doc.test("`pick`: its number", () -> Bound.takes("pick", Given::busy, 0, 2, Check.INDEX,
                (p, n) -> p.setKind(n, 3), n -> n));
        Doc.test("`kind`: 0 to 3", () -> Bound.takes("kind", Given::busy, 0, 3, Check.ARGUMENT,
                (p, n) -> 10 * p.setKind(1, n) + p.picked(1, 5), n -> 10 + n));
        Doc.test("Returns the previous kind.", BoundsOfPicks::setKindAnswers);
        Doc.test(NO_PICK, () -> noSuchPick("setKind", (p, n) -> p.setKind(n, 0)));
        Doc.test("Throws `IllegalArgumentException` if kind is out of range", BoundsOfPicks::noSuchKind);
    }

    private static void orderSentences() {
        Doc.section("Promise 7");
        Doc.test("Moves a pick to another place in the order; the numbers of those between change.",
                BoundsOfPicks::movesAPick);
        Doc.test("Undoable.", BoundsOfPicks::reorderIsUndoable);
        Doc.test("`pick`: its number", () -> Bound.takes("pick", Given::busy, 0, 2, Check.INDEX,
                (p, n) -> 100 * (p.reorder(n, 1) < 0 ? 1 : 0) + p.picked(1, 0), n -> FIRST[n]));
        Doc.test("`to`: its number then", () -> Bound.takes("to", Given::busy, 0, 2, Check.INDEX,
                (p, n) -> 100 * (p.reorder(1, n) < 0 ? 1 : 0) + p.picked(n, 0), n -> FIRST[1]));
        Doc.test("Returns how many cells of the mask get another level by that.", BoundsOfPicks::reorderCounts);
        Doc.test("Throws `IndexOutOfBoundsException` if there is no pick with one of these numbers", () -> {
            noSuchPick("reorder from there", (p, n) -> p.reorder(n, 0));
            noSuchPick("reorder to there", (p, n) -> p.reorder(0, n));
            noSuchPick("reorder from there to there", (p, n) -> p.reorder(n, n));
        });
    }

    private static void cleanSentences() {
        Doc.section("Promise 8");
        Doc.test("Removes the picks that are out; the numbers of the others decrease accordingly.", () -> {
            removesThoseOut();
            leavesJustTheOthers();
        });
        Doc.test("Undoable.", BoundsOfPicks::cleanIsUndoable);
        Doc.test("Returns how many picks are removed.", BoundsOfPicks::cleanCounts);
    }

    /** With no picks, with some of them, with 12, and after one has been removed or undone. */
    private static void noSuchPick(String call, Bound.Asks asks) {
        int[] none = {0, 1, -1, 11, 12, Integer.MIN_VALUE, Integer.MAX_VALUE};
        for (int n : none) {
            Bound.refused(call + " of " + n + " of none", Check.INDEX, AreaPicker::new, p -> asks.with(p, n));
        }
        int[] three = {3, 4, -1, -3, 11, 12, 13, 65536, Integer.MIN_VALUE, Integer.MAX_VALUE};
        for (int n : three) {
            Bound.refused(call + " of " + n + " of three", Check.INDEX, Given::busy, p -> asks.with(p, n));
        }
        int[] twelve = {12, 13, -1, -12, Integer.MIN_VALUE, Integer.MAX_VALUE};
        for (int n : twelve) {
            Bound.refused(call + " of " + n + " of twelve", Check.INDEX, Given::twelve, p -> asks.with(p, n));
        }
        Check.sameText(call + " of 11 of twelve", Bound.answer(() -> asks.with(Given.twelve(), 11) * 0), "0");
        Bound.refused(call + " of 2 of three, one removed", Check.INDEX, BoundsOfPicks::oneRemoved, p -> asks.with(p, 2));
        Bound.refused(call + " of one that is undone", Check.INDEX, BoundsOfPicks::oneUndone, p -> asks.with(p, 1));
    }

    private static AreaPicker oneRemoved() {
        AreaPicker p = Given.busy();
        p.clean();
        return p;
    }

    private static AreaPicker oneUndone() {
        AreaPicker p = Given.bare();
        p.pick(0, 0, 0, 0, 0, 0);
        p.undo();
        return p;
    }

    // ---- pick

    private static void makesAPick() {
        int[][] cells = {{0, 0}, {15, 0}, {0, 9}, {15, 9}};
        for (int[] c : cells) {
            AreaPicker p = Given.spot(c[0], c[1]);
            Check.same("a pick of a corner", p.pick(c[0], c[1], 0, 0, 5, 0), 1);
            Check.same("its level", p.level(0, c[0], c[1]), 100);
            Check.same("its sum", p.picked(0, 11), 100);
            Check.same("a pick of the others", p.pick(8, 5, 0, 1, 0, 0), 159);
            Check.same("the corner in it", p.level(1, c[0], c[1]), 0);
            Check.same("its sum", p.picked(1, 11), 15900);
            Check.same("the picture stays", p.count(6), 7960);
        }
        AreaPicker filled = Given.spot(8, 5);
        filled.pick(8, 5, 0, 0, 0, 40);
        filled.fill(99);
        Check.same("a later pick finds what a fill has left", filled.pick(8, 5, 0, 0, 0, 0), 1);
        Check.same("cells of 80 through the mask", filled.pick(7, 5, 0, 1, 0, 0), 8);
        filled.fill(60);
        Check.same("a fill changes what a pick finds", filled.pick(7, 5, 39, 0, 0, 0), 160);
    }

    private static void pickIsUndoable() {
        Bound.undoable("pick", Given::calm, p -> p.pick(8, 5, 0, 0, 0, 43));
        Bound.undoable("the first pick", AreaPicker::new, p -> p.pick(15, 9, 99, 1, 5, 0));
        Bound.undoable("the 12th pick", BoundsOfPicks::eleven, p -> p.pick(15, 9, 99, 1, 5, 42));
    }

    private static AreaPicker eleven() {
        AreaPicker p = Given.twelve();
        p.toggle(11);
        p.clean();
        return Given.forget(p);
    }

    private static void kinds() {
        for (int n = -20; n <= 70; n++) {
            int kind = n;
            if (n >= 0 && n <= 43 && n % 10 <= 3) {
                AreaPicker p = Given.bare();
                Check.same("pick with the kind " + n, p.pick(0, 0, 0, 0, 0, n), 160);
                Check.same("its kind of " + n, p.picked(1, 5), n % 10);
                Check.same("its softness of " + n, p.picked(1, 6), n / 10);
            } else {
                Bound.refused("pick with the kind " + n, Check.ARGUMENT, Given::busy, p -> p.pick(0, 0, 0, 0, 0, kind));
            }
        }
        Bound.refusesOthers("kind", Given::busy, 0, 49, Check.ARGUMENT, (p, n) -> p.pick(0, 0, 0, 0, 0, n));
    }

    private static void pickCounts() {
        Check.same("one cell", Given.spot(8, 5).pick(8, 5, 0, 0, 5, 0), 1);
        Check.same("all cells but one", Given.spot(8, 5).pick(0, 0, 0, 0, 0, 0), 159);
        Check.same("all cells", new AreaPicker().pick(15, 9, 0, 1, 5, 0), 160);
        Check.same("all cells with 99", Given.columns().pick(15, 9, 99, 0, 5, 43), 160);
        for (int kind = 0; kind <= 43; kind++) {
            if (kind % 10 <= 3) {
                AreaPicker p = Given.spot(8, 5);
                Check.same("the soft edges and the kind do not count: " + kind, p.pick(8, 5, 0, 0, 0, kind), 1);
                Check.same("cells with the level 100: " + kind, p.picked(0, 9), 1);
            }
        }
    }

    private static void pickOutside() {
        int[][] outside = {{-1, 0}, {16, 0}, {0, -1}, {0, 10}, {16, 10}, {-1, -1}, {-16, 1}, {32, -1}, {0, 1 << 28},
            {Integer.MIN_VALUE, 5}, {5, Integer.MAX_VALUE}};
        for (int[] c : outside) {
            Bound.refused("pick from (" + c[0] + ", " + c[1] + ")", Check.INDEX, Given::busy,
                    p -> p.pick(c[0], c[1], 0, 0, 0, 0));
            Bound.refused("a 13th pick from (" + c[0] + ", " + c[1] + ")", Check.INDEX, Given::twelve,
                    p -> p.pick(c[0], c[1], 0, 0, 0, 0));
        }
    }

    private static void pickWrongly() {
        int[][] wrong = {{-1, 0, 0, 0}, {100, 0, 0, 0}, {0, -1, 0, 0}, {0, 2, 0, 0}, {0, 0, -1, 0}, {0, 0, 6, 0},
            {0, 0, 0, -1}, {0, 0, 0, 4}, {0, 0, 0, 9}, {0, 0, 0, 44}, {0, 0, 0, 50}, {100, 2, 6, 50},
            {Integer.MAX_VALUE, 0, 0, 0}, {0, Integer.MIN_VALUE, 0, 0}, {0, 0, Integer.MAX_VALUE, 0},
            {0, 0, 0, Integer.MIN_VALUE}};
        for (int[] w : wrong) {
            String call = "pick(15, 9, " + w[0] + ", " + w[1] + ", " + w[2] + ", " + w[3] + ")";
            Bound.refused(call, Check.ARGUMENT, Given::busy, p -> p.pick(15, 9, w[0], w[1], w[2], w[3]));
            Bound.refused(call + " with 12", Check.ARGUMENT, Given::twelve, p -> p.pick(15, 9, w[0], w[1], w[2], w[3]));
        }
    }

    private static void pickAThirteenth() {
        AreaPicker p = new AreaPicker();
        for (int i = 1; i <= 12; i++) {
            int number = i;
            Check.sameText("the pick " + number, Bound.answer(() -> p.pick(0, 0, 0, 0, 0, 0)), "160");
        }
        Bound.refused("the 13th", Check.STATE, Given::twelve, q -> q.pick(0, 0, 0, 0, 0, 0));
        Bound.refused("the 13th, those before are out", Check.STATE, BoundsOfPicks::twelveOut,
                q -> q.pick(0, 0, 0, 0, 0, 0));
        p.undo();
        Check.sameText("the 12th after undo", Bound.answer(() -> p.pick(0, 0, 0, 0, 0, 0)), "160");
        p.toggle(0);
        p.clean();
        Check.sameText("the 12th after clean", Bound.answer(() -> p.pick(0, 0, 0, 0, 0, 0)), "160");
        Bound.throwsJust("the 13th after all", Check.STATE, () -> p.pick(0, 0, 0, 0, 0, 0));
    }

    private static AreaPicker twelveOut() {
        AreaPicker p = Given.twelve();
        for (int i = 0; i < 12; i++) {
            p.toggle(i);
        }
        return p;
    }

    // ---- toggle

    private static void togglesOutAndIn() {
        AreaPicker p = Given.sources();
        Given.pickLevel(p, 100, 0);
        Given.pickLevel(p, 60, 2);
        Check.same("both in", p.cell(8, 5, 1), 40);
        p.toggle(1);
        Check.same("the second one out", p.cell(8, 5, 1), 100);
        p.toggle(0);
        Check.same("both out", p.cell(8, 5, 1), 0);
        Check.same("the mask of none", p.count(3), 0);
        Check.same("the picks stay", p.count(0), 2);
        Check.same("and are in the cell", p.cell(8, 5, 2), 2);
        p.toggle(1);
        Check.same("the second one in first", p.cell(8, 5, 1), 0);
        p.toggle(0);
        Check.same("the order is that of their numbers", p.cell(8, 5, 1), 40);
        AreaPicker twelve = Given.twelve();
        for (int i = 11; i >= 0; i--) {
            twelve.toggle(i);
            Check.same("picks that are in", twelve.count(1), i);
            Check.same("the mask", twelve.count(4), i > 0 ? 16000 : 0);
        }
        twelve.toggle(11);
        Check.same("the last one in again", twelve.count(4), 16000);
    }

    private static void toggleIsUndoable() {
        Bound.undoable("toggle to out", Given::calm, p -> p.toggle(0));
        Bound.undoable("toggle to in", Given::calm, p -> p.toggle(1));
        AreaPicker p = Given.calm();
        p.toggle(1);
        p.toggle(1);
        p.toggle(1);
        int[] in = {0, 1, 0};
        for (int due : in) {
            p.undo();
            Check.same("in after undo", p.picked(1, 7), due);
        }
    }

    private static void toggleAnswers() {
        AreaPicker p = Given.twelve();
        for (int i = 0; i < 12; i++) {
            Check.same("toggle(" + i + ") of one that is in", p.toggle(i), 0);
            Check.same("picked(" + i + ", 7)", p.picked(i, 7), 0);
            Check.same("toggle(" + i + ") of one that is out", p.toggle(i), 1);
            Check.same("picked(" + i + ", 7) then", p.picked(i, 7), 1);
        }
    }

    // ---- setKind

    private static void changesTheKind() {
        AreaPicker p = Given.sources();
        Given.pickLevel(p, 80, 0);
        Given.pickLevel(p, 60, 0);
        int[] due = {60, 80, 40, 60};
        for (int from = 0; from <= 3; from++) {
            for (int to = 0; to <= 3; to++) {
                p.setKind(1, from);
                p.setKind(1, to);
                Check.same("kind " + from + " to " + to, p.picked(1, 5), to);
                Check.same("the mask with the kind " + to, p.cell(8, 5, 1), due[to]);
                Check.same("the softness stays", p.picked(1, 6), 4);
                Check.same("it stays in", p.picked(1, 7), 1);
                Check.same("its level stays", p.level(1, 8, 5), 60);
                Check.same("the other one's kind stays", p.picked(0, 5), 0);
            }
        }
        p.toggle(1);
        p.setKind(1, 2);
        Check.same("one that is out stays out", p.picked(1, 7), 0);
        p.toggle(1);
        Check.same("in again with the other kind", p.cell(8, 5, 1), 40);
    }

    private static void setKindIsUndoable() {
        for (int kind = 0; kind <= 3; kind++) {
            int to = kind;
            Bound.undoable("setKind(0, " + kind + ")", Given::calm, p -> p.setKind(0, to));
            Bound.undoable("setKind(1, " + kind + ")", Given::calm, p -> p.setKind(1, to));
        }
    }

    private static void setKindAnswers() {
        AreaPicker p = new AreaPicker();
        p.pick(0, 0, 0, 0, 0, 43);
        Check.same("setKind(0, 0) of 43", p.setKind(0, 0), 3);
        for (int from = 0; from <= 3; from++) {
            for (int to = 0; to <= 3; to++) {
                p.setKind(0, from);
                Check.same("setKind(0, " + to + ")", p.setKind(0, to), from);
            }
        }
    }

    private static void noSuchKind() {
        int[] kinds = {-1, 4, 10, 13, 40, -4, Integer.MIN_VALUE, Integer.MAX_VALUE};
        for (int kind : kinds) {
            Bound.refused("setKind(0, " + kind + ")", Check.ARGUMENT, Given::busy, p -> p.setKind(0, kind));
            Bound.refused("setKind(11, " + kind + ")", Check.ARGUMENT, Given::twelve, p -> p.setKind(11, kind));
        }
    }

    // ---- reorder

    private static void movesAPick() {
        for (int from = 0; from < 12; from++) {
            for (int to = 0; to < 12; to++) {
                AreaPicker p = Given.twelve();
                p.reorder(from, to);
                for (int i = 0; i < 12; i++) {
                    Check.same("reorder(" + from + ", " + to + "), then picked(" + i + ", 0)", p.picked(i, 0),
                            moved(i, from, to));
                }
            }
        }
        AreaPicker one = new AreaPicker();
        one.pick(15, 9, 0, 0, 0, 0);
        Check.same("reorder of the only one", one.reorder(0, 0), 0);
        Check.same("it is there", one.picked(0, 0), 15);
        AreaPicker out = Given.busy();
        out.reorder(1, 2);
        Check.same("one that is out moves", out.picked(2, 0), 4);
        Check.same("and stays out", out.picked(2, 7), 0);
        Check.same("with its kind", out.picked(2, 5), 1);
        Check.same("the one between is in", out.picked(1, 7), 1);
    }

    private static int moved(int place, int from, int to) {
        if (place == to) {
            return from;
        }
        if (from < to) {
            return place >= from && place < to ? place + 1 : place;
        }
        return place > to && place <= from ? place - 1 : place;
    }

    private static void reorderIsUndoable() {
        Bound.undoable("reorder(0, 2)", Given::calm, p -> p.reorder(0, 2));
        Bound.undoable("reorder(2, 0)", Given::calm, p -> p.reorder(2, 0));
        Bound.undoable("reorder(2, 2)", Given::calm, p -> p.reorder(2, 2));
        Bound.undoable("reorder(0, 11)", () -> Given.forget(Given.twelve()), p -> p.reorder(0, 11));
    }

    private static void reorderCounts() {
        AreaPicker p = new AreaPicker();
        p.pick(0, 0, 0, 0, 0, 0);
        p.draw(8, 5, 8, 5, 0);
        p.pick(8, 5, 0, 0, 0, 0);
        Check.same("all but the one in both", p.reorder(0, 1), 159);
        Check.same("and back", p.reorder(1, 0), 159);
        Check.same("to the same place", p.reorder(1, 1), 0);
        p.setKind(1, 1);
        p.setKind(0, 1);
        Check.same("two that add", p.reorder(0, 1), 0);
        p.setKind(0, 2);
        Check.same("one that takes a cell, over nothing, then behind", p.reorder(0, 1), 1);
        p.toggle(0);
        Check.same("one of them out", p.reorder(1, 0), 0);
        AreaPicker all = new AreaPicker();
        all.pick(0, 0, 0, 0, 0, 2);
        all.pick(0, 0, 0, 0, 0, 1);
        Check.same("all cells", all.reorder(0, 1), 160);
        Check.same("the mask then", all.count(4), 0);
        Check.same("all cells back", all.reorder(0, 1), 160);
    }

    // ---- clean

    private static void removesThoseOut() {
        for (int out = 0; out < 4096; out += 91) {
            AreaPicker p = Given.twelve();
            for (int i = 0; i < 12; i++) {
                if ((out >> i & 1) == 1) {
                    p.toggle(i);
                }
            }
            p.clean();
            int left = 0;
            for (int i = 0; i < 12; i++) {
                if ((out >> i & 1) == 0) {
                    Check.same("the pick " + i + " then", p.picked(left, 0), i);
                    Check.same("it is in", p.picked(left, 7), 1);
                    left++;
                }
            }
            Check.same("picks then", p.count(0), left);
            Check.same("picks that are in then", p.count(1), left);
            int none = left;
            Bound.throwsJust("picked(" + none + ", 0)", Check.INDEX, () -> p.picked(none, 0));
        }
        AreaPicker all = Given.twelve();
        for (int i = 0; i < 12; i++) {
            all.toggle(i);
        }
        Check.same("clean of all", all.clean(), 12);
        Check.same("none is left", all.count(0), 0);
        Check.same("no pick in a cell", all.cell(0, 0, 2), 0);
        Check.same("clean of none", all.clean(), 0);
        Check.same("the first pick again", all.pick(9, 9, 0, 0, 0, 0), 160);
        Check.same("its column", all.picked(0, 0), 9);
    }

    /** Twelve picks of many levels and kinds, but for those whose bits are set. */
    private static AreaPicker without(int out) {
        AreaPicker p = Given.sources();
        for (int i = 0; i < 12; i++) {
            if ((out >> i & 1) == 0) {
                Given.pickLevel(p, Given.levels()[i * 3 % 11], (i + 1) % 4);
            }
        }
        return p;
    }

    /** The mask, the counts and the later calls are those of an object that never had the others. */
    private static void leavesJustTheOthers() {
        for (int out = 0; out < 4096; out += 37) {
            AreaPicker p = without(0);
            for (int i = 0; i < 12; i++) {
                if ((out >> i & 1) == 1) {
                    p.toggle(i);
                }
            }
            AreaPicker twin = without(out);
            p.clean();
            sameMask(p, twin, "after clean of " + out);
            Check.same("clean again", p.clean(), 0);
            sameMask(p, twin, "after clean again");
            if (twin.count(0) > 0) {
                p.toggle(0);
                twin.toggle(0);
                Check.same("clean of one more", p.clean(), twin.clean());
                sameMask(p, twin, "after clean of one more than " + out);
            }
            if (twin.count(0) < 12) {
                Given.pickLevel(p, 75, 1);
                Given.pickLevel(twin, 75, 1);
                sameMask(p, twin, "after a pick more");
            }
        }
    }

    private static void sameMask(AreaPicker p, AreaPicker twin, String when) {
        for (int what = 0; what <= 5; what++) {
            Check.same("count(" + what + ") " + when, p.count(what), twin.count(what));
        }
        for (int x = 4; x < 16; x++) {
            Check.same("cell(" + x + ", 5, 1) " + when, p.cell(x, 5, 1), twin.cell(x, 5, 1));
            Check.same("cell(" + x + ", 5, 2) " + when, p.cell(x, 5, 2), twin.cell(x, 5, 2));
        }
    }

    private static void cleanIsUndoable() {
        Bound.undoable("clean of one", Given::calm, AreaPicker::clean);
        Bound.undoable("clean of none that is out", () -> Given.forget(Given.twelve()), AreaPicker::clean);
        Bound.undoable("clean without picks", AreaPicker::new, AreaPicker::clean);
        Bound.undoable("clean of all", () -> Given.forget(twelveOut()), AreaPicker::clean);
        AreaPicker p = twelveOut();
        p.clean();
        p.pick(14, 0, 0, 0, 0, 0);
        p.undo();
        p.undo();
        for (int i = 0; i < 12; i++) {
            Check.same("after undo, picked(" + i + ", 0)", p.picked(i, 0), i);
        }
    }

    private static void cleanCounts() {
        AreaPicker p = Given.twelve();
        Check.same("none is out", p.clean(), 0);
        p.toggle(11);
        Check.same("the last one is out", p.clean(), 1);
        p.toggle(0);
        p.toggle(5);
        p.toggle(10);
        Check.same("three are out", p.clean(), 3);
        Check.same("eight are left", p.count(0), 8);
        Check.same("twelve are out", twelveOut().clean(), 12);
        Check.same("there is no pick", new AreaPicker().clean(), 0);
    }
}
