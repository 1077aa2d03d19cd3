/** The bounds that the promises 14 to 17 name: cell, picked, level, count. */
final class BoundsOfProperties {
    private static final int[][] OUTSIDE = {{-1, 0}, {16, 0}, {0, -1}, {0, 10}, {-1, -1}, {16, 10}, {16, -1}, {-16, 1},
        {32, -1}, {0, 1 << 28}, {1 << 28, 0}, {Integer.MIN_VALUE, 0}, {0, Integer.MAX_VALUE}};

    private BoundsOfProperties() {
    }

    static void ask() {
        cellSentences();
        pickedSentences();
        levelSentences();
        Doc.section("Promise 17");
        Doc.test("Returns a number.", BoundsOfProperties::numbers);
        Doc.test("`what`: 0: picks; 1: picks that are in; 2: cells whose level of the mask is 100; 3: cells with a level above "
                + "0; 4: the sum of all levels of the mask; 5: the length of the edge of the mask: pairs of cells that share a "
                + "side, of which just one has a level of 50 or more, plus the sides at the edge of the picture of cells with "
                + "a level of 50 or more (a cell in a corner has two of them); 6: the sum of all shades; 7: how many shades "
                + "there are; 8: saved states", BoundsOfProperties::countsByWhat);
        Doc.test("Returns the number.", BoundsOfProperties::leastAndMostNumbers);
        Doc.test("Throws `IllegalArgumentException` if what is not 0 to 8", () -> noSuchWhat("count", 8, AreaPicker::count));
    }

    private static void cellSentences() {
        Doc.section("Promise 14");
        Doc.test("Returns a property of a cell.", BoundsOfProperties::cellsDiffer);
        Doc.test("`x`: its column", () -> Bound.takes("x", Given::columns, 0, 15, Check.INDEX,
                (p, n) -> p.cell(n, 9, 0), n -> 5 * n));
        Doc.test("`y`: its row", () -> Bound.takes("y", Given::rows, 0, 9, Check.INDEX,
                (p, n) -> p.cell(15, n, 0), n -> 9 * n));
        Doc.test("`what`: 0: its shade; 1: its level of the mask; 2: the number of picks (in or out) in which its level is "
                + "above 0", BoundsOfProperties::cellsByWhat);
        Doc.test("Returns the property.", BoundsOfProperties::leastAndMostOfCells);
        Doc.test("Throws `IndexOutOfBoundsException` if there is no such cell", () -> {
            for (int[] c : OUTSIDE) {
                for (int what = 0; what <= 2; what++) {
                    int asked = what;
                    Bound.refused("cell(" + c[0] + ", " + c[1] + ", " + what + ")", Check.INDEX, Given::busy,
                            p -> p.cell(c[0], c[1], asked));
                }
            }
        });
        Doc.test("Throws `IllegalArgumentException` if what is not 0 to 2",
                () -> noSuchWhat("cell", 2, (p, n) -> p.cell(15, 9, n)));
    }

    private static void pickedSentences() {
        Doc.section("Promise 15");
        Doc.test("Returns a property of a pick.", BoundsOfProperties::picksDiffer);
        Doc.test("`pick`: its number", () -> Bound.takes("pick", Given::twelve, 0, 11, Check.INDEX,
                (p, n) -> p.picked(n, 0), n -> n));
        Doc.test("`what`: 0: column of its first cell; 1: its row; 2: likeness; 3: way; 4: gap; 5: kind; 6: softness; 7: 1 if "
                + "it is in, else 0; 8: the width that was used; 9: cells with the level 100; 10: cells with a level above 0; "
                + "11: the sum of its levels", BoundsOfProperties::pickedByWhat);
        Doc.test("Returns the property.", BoundsOfProperties::leastAndMostOfPicks);
        Doc.test("Throws `IndexOutOfBoundsException` if there is no such pick",
                () -> noSuchPick("picked", (p, n) -> p.picked(n, 0)));
        Doc.test("Throws `IllegalArgumentException` if what is not 0 to 11",
                () -> noSuchWhat("picked", 11, (p, n) -> p.picked(2, n)));
    }

    private static void levelSentences() {
        Doc.section("Promise 16");
        Doc.test("Returns the level of a cell in a pick.", BoundsOfProperties::levelsDiffer);
        Doc.test("`pick`: its number", () -> Bound.takes("pick", BoundsOfProperties::twelveLevels, 0, 11, Check.INDEX,
                (p, n) -> p.level(n, 8, 5), n -> n < 11 ? Given.levels()[n] : 0));
        Doc.test("`x`: column of the cell", () -> Bound.takes("x", BoundsOfProperties::softColumn, 0, 15, Check.INDEX,
                (p, n) -> p.level(0, n, 9), n -> Math.max(0, 100 - 20 * (15 - n))));
        Doc.test("`y`: its row", () -> Bound.takes("y", BoundsOfProperties::softRow, 0, 9, Check.INDEX,
                (p, n) -> p.level(0, 15, n), n -> Math.max(0, 100 - 20 * (9 - n))));
        Doc.test("Returns the level.", BoundsOfProperties::leastAndMostLevels);
        Doc.test("Throws `IndexOutOfBoundsException` if there is no such pick or cell", () -> {
            noSuchPick("level", (p, n) -> p.level(n, 0, 0));
            for (int[] c : OUTSIDE) {
                Bound.refused("level(0, " + c[0] + ", " + c[1] + ")", Check.INDEX, Given::busy, p -> p.level(0, c[0], c[1]));
                Bound.refused("level(11, " + c[0] + ", " + c[1] + ")", Check.INDEX, Given::twelve,
                        p -> p.level(11, c[0], c[1]));
                Bound.refused("level(3, " + c[0] + ", " + c[1] + ")", Check.INDEX, Given::busy, p -> p.level(3, c[0], c[1]));
            }
        });
    }

    private static void noSuchWhat(String call, int most, Bound.Asks asks) {
        int[] wrong = {-1, most + 1, most + 2, -most, 10 * most, 256, 65536, Integer.MIN_VALUE, Integer.MAX_VALUE};
        for (int what : wrong) {
            Bound.refused(call + " with " + what, Check.ARGUMENT, Given::busy, p -> asks.with(p, what));
        }
        for (int what = 0; what <= most; what++) {
            int asked = what;
            Check.sameText(call + " with " + what, Bound.answer(() -> asks.with(Given.busy(), asked) * 0), "0");
        }
    }

    private static void noSuchPick(String call, Bound.Asks asks) {
        int[] none = {0, 1, -1, 11, 12, Integer.MIN_VALUE, Integer.MAX_VALUE};
        for (int n : none) {
            Bound.refused(call + " of " + n + " of none", Check.INDEX, AreaPicker::new, p -> asks.with(p, n));
        }
        int[] three = {3, 4, -1, 11, 12, 65536, Integer.MIN_VALUE, Integer.MAX_VALUE};
        for (int n : three) {
            Bound.refused(call + " of " + n + " of three", Check.INDEX, Given::busy, p -> asks.with(p, n));
        }
        int[] twelve = {12, 13, -1, Integer.MIN_VALUE, Integer.MAX_VALUE};
        for (int n : twelve) {
            Bound.refused(call + " of " + n + " of twelve", Check.INDEX, Given::twelve, p -> asks.with(p, n));
        }
        AreaPicker p = Given.twelve();
        p.toggle(4);
        p.clean();
        Bound.throwsJust(call + " of 11 after clean", Check.INDEX, () -> asks.with(p, 11));
        p.undo();
        Check.sameText(call + " of 11 after undo", Bound.answer(() -> asks.with(p, 11) * 0), "0");
    }

    // ---- cell

    private static void cellsDiffer() {
        AreaPicker p = new AreaPicker();
        for (int cell = 0; cell < 160; cell++) {
            p.draw(cell % 16, cell / 16, cell % 16, cell / 16, cell % 100);
        }
        for (int cell = 0; cell < 160; cell++) {
            Check.same("cell(" + cell % 16 + ", " + cell / 16 + ", 0)", p.cell(cell % 16, cell / 16, 0), cell % 100);
        }
    }

    private static void cellsByWhat() {
        AreaPicker p = Given.sources();
        Check.same("picks over a cell of none", p.cell(8, 5, 2), 0);
        int[] levels = Given.levels();
        for (int i = 0; i < levels.length; i++) {
            Given.pickLevel(p, levels[i], 0);
            Check.same("its shade", p.cell(8, 5, 0), 0);
            Check.same("its level of the mask", p.cell(8, 5, 1), levels[i]);
            // The first one has the level 0 there.
            Check.same("picks with a level above 0", p.cell(8, 5, 2), i);
        }
        for (int i = 0; i < levels.length; i++) {
            p.toggle(i);
        }
        Check.same("the mask when all are out", p.cell(8, 5, 1), 0);
        Check.same("picks that are out", p.cell(8, 5, 2), 10);
        p.clean();
        Check.same("picks that are removed", p.cell(8, 5, 2), 0);
        AreaPicker least = Given.spot(8, 5);
        least.pick(8, 5, 0, 0, 0, 42);
        Check.same("one with the level 20, that takes", least.cell(4, 1, 2), 1);
        Check.same("its level of the mask", least.cell(4, 1, 1), 0);
        Check.same("beyond it", least.cell(3, 1, 2), 0);
    }

    private static void leastAndMostOfCells() {
        AreaPicker p = Given.twelve();
        Check.same("all 12 picks", p.cell(15, 9, 2), 12);
        Check.same("the greatest level", p.cell(15, 9, 1), 100);
        p.fill(99);
        Check.same("the greatest shade", p.cell(15, 9, 0), 99);
        p.fill(0);
        Check.same("the least shade", p.cell(15, 9, 0), 0);
        AreaPicker none = new AreaPicker();
        Check.same("no pick", none.cell(0, 0, 2), 0);
        Check.same("no mask", none.cell(0, 0, 1), 0);
    }

    // ---- picked

    private static void picksDiffer() {
        AreaPicker p = Given.columns();
        for (int i = 0; i < 12; i++) {
            p.pick(15 - i, i % 10, 5 * i, i % 2, i % 6, 10 * (i % 5) + i % 4);
        }
        for (int i = 0; i < 12; i++) {
            int[] due = {15 - i, i % 10, 5 * i, i % 2, i % 6, i % 4, i % 5, 1};
            for (int what = 0; what < due.length; what++) {
                Check.same("picked(" + i + ", " + what + ")", p.picked(i, what), due[what]);
            }
        }
    }

    private static void pickedByWhat() {
        AreaPicker p = Given.wallWithPassage(3);
        p.pick(6, 9, 39, 1, 5, 23);
        int[] due = {6, 9, 39, 1, 5, 3, 2, 1, 5, 70, 90, 7000 + 660 + 330};
        properties(p, "a pick", due);
        p.toggle(0);
        due[7] = 0;
        properties(p, "out", due);
        p.setKind(0, 0);
        due[5] = 0;
        properties(p, "with another kind", due);
        p.draw(0, 0, 15, 9, 7);
        properties(p, "when the picture is another", due);
        for (int width = 0; width <= 5; width++) {
            AreaPicker q = new AreaPicker();
            q.draw(0, 0, width, width, 0);
            q.pick(0, 0, 0, 0, 5, 0);
            Check.same("the gap that was asked for", q.picked(0, 4), 5);
            Check.same("the width that was used", q.picked(0, 8), width);
            q.pick(0, 0, 0, 0, width, 0);
            Check.same("the gap", q.picked(1, 4), width);
            Check.same("the width", q.picked(1, 8), width);
        }
    }

    private static void properties(AreaPicker p, String when, int[] due) {
        for (int what = 0; what < due.length; what++) {
            Check.same(when + ": picked(0, " + what + ")", p.picked(0, what), due[what]);
        }
    }

    private static void leastAndMostOfPicks() {
        AreaPicker p = new AreaPicker();
        p.pick(15, 9, 99, 1, 5, 43);
        properties(p, "the greatest of all", new int[] {15, 9, 99, 1, 5, 3, 4, 1, 5, 160, 160, 16000});
        AreaPicker q = Given.spot(0, 0);
        q.pick(0, 0, 0, 0, 0, 0);
        properties(q, "the least of all", new int[] {0, 0, 0, 0, 0, 0, 0, 1, 0, 1, 1, 100});
        q.toggle(0);
        Check.same("out", q.picked(0, 7), 0);
        AreaPicker soft = Given.spot(8, 5);
        soft.pick(8, 5, 0, 0, 5, 40);
        properties(soft, "soft", new int[] {8, 5, 0, 0, 5, 0, 4, 1, 0, 1, 81, 3300});
    }

    // ---- level

    private static AreaPicker twelveLevels() {
        AreaPicker p = Given.sources();
        for (int level : Given.levels()) {
            Given.pickLevel(p, level, 0);
        }
        Given.pickLevel(p, 0, 0);
        return p;
    }

    private static AreaPicker softColumn() {
        AreaPicker p = new AreaPicker();
        p.draw(15, 0, 15, 9, 0);
        p.pick(15, 0, 0, 0, 0, 40);
        return p;
    }

    private static AreaPicker softRow() {
        AreaPicker p = new AreaPicker();
        p.draw(0, 9, 15, 9, 0);
        p.pick(0, 9, 0, 0, 0, 40);
        return p;
    }

    private static void levelsDiffer() {
        AreaPicker p = Given.spot(0, 0);
        p.pick(0, 0, 0, 0, 0, 0);
        p.pick(1, 0, 0, 0, 0, 0);
        for (int cell = 0; cell < 160; cell++) {
            Check.same("level(0, " + cell % 16 + ", " + cell / 16 + ")", p.level(0, cell % 16, cell / 16),
                    cell == 0 ? 100 : 0);
            Check.same("level(1, " + cell % 16 + ", " + cell / 16 + ")", p.level(1, cell % 16, cell / 16),
                    cell == 0 ? 0 : 100);
        }
    }

    private static void leastAndMostLevels() {
        AreaPicker p = twelveLevels();
        for (int i = 0; i < Given.levels().length; i++) {
            Check.same("level(" + i + ", 8, 5)", p.level(i, 8, 5), Given.levels()[i]);
            p.toggle(i);
            Check.same("when it is out", p.level(i, 8, 5), Given.levels()[i]);
            p.setKind(i, 2);
            Check.same("when it takes", p.level(i, 8, 5), Given.levels()[i]);
        }
    }

    // ---- count

    private static void numbers(AreaPicker p, String when, int... due) {
        for (int what = 0; what < due.length; what++) {
            Check.same(when + ": count(" + what + ")", p.count(what), due[what]);
        }
    }

    private static void numbers() {
        AreaPicker p = new AreaPicker();
        numbers(p, "new", 0, 0, 0, 0, 0, 0, 8000, 1, 0);
        p.draw(8, 5, 8, 5, 10);
        numbers(p, "drawn", 0, 0, 0, 0, 0, 0, 7960, 2, 1);
        p.pick(8, 5, 0, 0, 0, 40);
        numbers(p, "picked", 1, 1, 1, 81, 3300, 20, 7960, 2, 2);
        p.toggle(0);
        numbers(p, "out", 1, 0, 0, 0, 0, 0, 7960, 2, 3);
        p.clean();
        numbers(p, "removed", 0, 0, 0, 0, 0, 0, 7960, 2, 4);
        p.undo();
        p.undo();
        numbers(p, "undone", 1, 1, 1, 81, 3300, 20, 7960, 2, 2);
    }

    private static void countsByWhat() {
        AreaPicker corner = Given.spot(15, 0);
        corner.pick(15, 0, 0, 0, 0, 10);
        numbers(corner, "a corner with the level 50 beside it", 1, 1, 1, 4, 250, 8);
        corner.pick(15, 0, 0, 0, 0, 0);
        Check.same("a corner alone", corner.count(5), 4);
        corner.pick(15, 0, 0, 0, 0, 40);
        numbers(corner, "80 and 60 within the edge, 40 and 20 not", 3, 3, 1, 25, 100 + 240 + 300 + 280 + 180, 12);
        edges();
        Check.same("shades: one", new AreaPicker().count(7), 1);
        AreaPicker all = new AreaPicker();
        for (int shade = 0; shade <= 99; shade++) {
            all.draw(shade % 16, shade / 16, shade % 16, shade / 16, shade);
        }
        Check.same("shades: all", all.count(7), 100);
        Check.same("their sum", all.count(6), 4950 + 60 * 50);
        all.draw(0, 0, 0, 0, 50);
        Check.same("shades: all but 0", all.count(7), 99);
        all.draw(99 % 16, 99 / 16, 99 % 16, 99 / 16, 50);
        Check.same("shades: all but 0 and 99", all.count(7), 98);
        AreaPicker saved = new AreaPicker();
        for (int i = 0; i <= 8; i++) {
            Check.same("saved states after " + i, saved.count(8), Math.min(i, 6));
            saved.clean();
        }
    }

    private static void edges() {
        for (int level : Given.levels()) {
            AreaPicker p = Given.sources();
            Given.pickLevel(p, level, 0);
            boolean within = level >= 50;
            Check.same("the edge has the cell with " + level, p.cell(8, 5, 1) >= 50 ? 1 : 0, within ? 1 : 0);
            p.draw(0, 0, 15, 9, 0);
            p.draw(8, 5, 8, 5, 1);
            p.pick(8, 5, 0, 0, 0, 3);
            Check.same("the edge of a cell with " + level, p.count(5), within ? 4 : 0);
        }
        AreaPicker whole = new AreaPicker();
        whole.pick(0, 0, 0, 0, 0, 0);
        Check.same("the edge of the whole picture", whole.count(5), 52);
        whole.draw(8, 5, 8, 5, 0);
        whole.pick(8, 5, 0, 0, 0, 2);
        Check.same("with a hole", whole.count(5), 56);
        AreaPicker columns = new AreaPicker();
        columns.draw(15, 0, 15, 9, 0);
        columns.pick(15, 0, 0, 0, 0, 0);
        Check.same("the last column", columns.count(5), 22);
        columns.draw(0, 0, 0, 9, 1);
        columns.pick(0, 0, 0, 0, 0, 1);
        Check.same("the first column and the last one share no side", columns.count(5), 44);
        AreaPicker rows = new AreaPicker();
        rows.draw(0, 9, 15, 9, 0);
        rows.pick(0, 9, 0, 0, 0, 0);
        rows.draw(0, 0, 15, 0, 1);
        rows.pick(0, 0, 0, 0, 0, 1);
        Check.same("the first row and the last one share no side", rows.count(5), 68);
        int[][] corners = {{0, 0}, {15, 0}, {0, 9}, {15, 9}};
        for (int[] c : corners) {
            AreaPicker p = Given.spot(c[0], c[1]);
            p.pick(c[0], c[1], 0, 0, 0, 0);
            Check.same("a corner has two sides at the edge", p.count(5), 4);
            p.pick(8, 5, 0, 0, 0, 0);
            Check.same("all but a corner", p.count(5), 52);
        }
    }

    private static void leastAndMostNumbers() {
        AreaPicker p = Given.twelve();
        p.fill(99);
        numbers(p, "the greatest", 12, 12, 160, 160, 16000, 52, 15840, 1, 6);
        p.fill(0);
        numbers(p, "the least sum", 12, 12, 160, 160, 16000, 52, 0, 1, 6);
        for (int i = 0; i < 12; i++) {
            p.toggle(i);
        }
        numbers(p, "all out", 12, 0, 0, 0, 0, 0, 0, 1, 6);
        p.clean();
        numbers(p, "none", 0, 0, 0, 0, 0, 0, 0, 1, 6);
    }
}
