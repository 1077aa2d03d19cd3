/** The bounds that the promises 1 to 3 name: a new object, draw, fill. */
final class BoundsOfPicture {
    private static final String DRAWN = "Returns how many cells got another shade than they had.";
    private static final String NO_SHADE = "Throws `IllegalArgumentException` if shade is out of range";

    private BoundsOfPicture() {
    }

    static void ask() {
        Doc.section("Promise 1");
        Doc.test("Creates a picture with the shade 50 everywhere, without picks, and with an empty buffer.",
                BoundsOfPicture::aNewObject);
        Doc.section("Promise 2");
        Doc.test("Draws a line: all cells of a rectangle whose corners are two cells get a shade.",
                BoundsOfPicture::drawsJustTheRectangle);
        Doc.test("Undoable.", BoundsOfPicture::drawIsUndoable);
        Doc.test("`x`: column of the one cell", () -> Bound.takes("x", Given::bare, 0, 15, Check.INDEX,
                (p, n) -> p.draw(n, 3, 4, 5, 99), n -> 3 * (Math.abs(n - 4) + 1)));
        Doc.test("`y`: its row", () -> Bound.takes("y", Given::bare, 0, 9, Check.INDEX,
                (p, n) -> p.draw(4, n, 6, 5, 99), n -> 3 * (Math.abs(n - 5) + 1)));
        Doc.test("`u`: column of the other one", () -> Bound.takes("u", Given::bare, 0, 15, Check.INDEX,
                (p, n) -> p.draw(4, 3, n, 5, 99), n -> 3 * (Math.abs(n - 4) + 1)));
        Doc.test("`v`: its row", () -> Bound.takes("v", Given::bare, 0, 9, Check.INDEX,
                (p, n) -> p.draw(4, 5, 6, n, 99), n -> 3 * (Math.abs(n - 5) + 1)));
        Doc.test("`shade`: 0 to 99", () -> Bound.takes("shade", Given::bare, 0, 99, Check.ARGUMENT,
                (p, n) -> 1000 * p.draw(2, 2, 3, 3, n) + p.cell(3, 3, 0), n -> n == 50 ? 50 : 4000 + n));
        Doc.test(DRAWN, BoundsOfPicture::drawCounts);
        Doc.test("Throws `IndexOutOfBoundsException` if one of the cells does not exist", BoundsOfPicture::drawOutside);
        Doc.test(NO_SHADE, BoundsOfPicture::drawWithoutShade);
        fillSentences();
    }

    private static void fillSentences() {
        Doc.section("Promise 3");
        Doc.test("Fills with a shade through the mask.", BoundsOfPicture::fillsThroughTheMask);
        Doc.test("Undoable.", BoundsOfPicture::fillIsUndoable);
        Doc.test("`shade`: 0 to 99", () -> Bound.takes("shade", BoundsOfPicture::wholeMask, 0, 99, Check.ARGUMENT,
                (p, n) -> 1000 * p.fill(n) + p.cell(15, 9, 0), n -> n == 50 ? 50 : 160000 + n));
        Doc.test(DRAWN, BoundsOfPicture::fillCounts);
        Doc.test(NO_SHADE, BoundsOfPicture::fillWithoutShade);
    }

    private static void aNewObject() {
        AreaPicker p = new AreaPicker();
        for (int cell = 0; cell < 160; cell++) {
            Check.same("cell(" + cell % 16 + ", " + cell / 16 + ", 0)", p.cell(cell % 16, cell / 16, 0), 50);
            Check.same("cell(" + cell % 16 + ", " + cell / 16 + ", 2)", p.cell(cell % 16, cell / 16, 2), 0);
        }
        long[] counts = {0, 0, 0, 0, 0, 0, 8000, 1, 0};
        for (int what = 0; what < counts.length; what++) {
            Check.same("count(" + what + ")", p.count(what), counts[what]);
        }
        Check.same("firstError()", p.firstError(), 0);
        Check.same("clearBuffer()", p.clearBuffer(), 0);
        Bound.refused("toggle(0)", Check.INDEX, AreaPicker::new, q -> q.toggle(0));
        Bound.refused("setKind(0, 0)", Check.INDEX, AreaPicker::new, q -> q.setKind(0, 0));
        Bound.refused("reorder(0, 0)", Check.INDEX, AreaPicker::new, q -> q.reorder(0, 0));
        Bound.refused("picked(0, 0)", Check.INDEX, AreaPicker::new, q -> q.picked(0, 0));
        Bound.refused("level(0, 0, 0)", Check.INDEX, AreaPicker::new, q -> q.level(0, 0, 0));
        Bound.refused("load()", Check.ARGUMENT, AreaPicker::new, AreaPicker::load);
        Bound.refused("undo()", Check.STATE, AreaPicker::new, AreaPicker::undo);
        Check.same("append(48)", p.append(48), 1);
        Check.same("the first pick", p.pick(0, 0, 0, 0, 5, 0), 160);
        Check.same("its number", p.picked(0, 8), 5);
        AreaPicker other = new AreaPicker();
        p.draw(0, 0, 15, 9, 7);
        Check.same("another object's buffer", other.clearBuffer(), 0);
        Check.same("another object's picks", other.count(0), 0);
        Check.same("another object's shades", other.count(6), 8000);
        Check.same("another object's saved states", other.count(8), 0);
    }

    private static void drawsJustTheRectangle() {
        int[][] lines = {{0, 0, 0, 0}, {15, 9, 15, 9}, {15, 0, 15, 0}, {0, 9, 0, 9}, {0, 0, 15, 9}, {15, 9, 0, 0},
            {15, 0, 0, 9}, {0, 9, 15, 0}, {0, 4, 15, 4}, {15, 9, 0, 9}, {7, 0, 7, 9}, {15, 9, 15, 0}, {3, 7, 9, 2},
            {9, 2, 3, 7}, {3, 2, 9, 7}, {9, 7, 3, 2}};
        for (int[] l : lines) {
            AreaPicker p = new AreaPicker();
            int wide = Math.abs(l[0] - l[2]) + 1;
            int high = Math.abs(l[1] - l[3]) + 1;
            String call = "draw(" + l[0] + ", " + l[1] + ", " + l[2] + ", " + l[3] + ", 99)";
            Check.same(call, p.draw(l[0], l[1], l[2], l[3], 99), wide * high);
            for (int cell = 0; cell < 160; cell++) {
                int x = cell % 16;
                int y = cell / 16;
                boolean within = Math.abs(x - l[0]) + Math.abs(x - l[2]) < wide
                        && Math.abs(y - l[1]) + Math.abs(y - l[3]) < high;
                Check.same(call + ", then cell(" + x + ", " + y + ", 0)", p.cell(x, y, 0), within ? 99 : 50);
            }
        }
    }

    private static void drawIsUndoable() {
        Bound.undoable("draw of a cell", Given::calm, p -> p.draw(15, 9, 15, 9, 1));
        Bound.undoable("draw of all cells", Given::calm, p -> p.draw(15, 9, 0, 0, 99));
        Bound.undoable("draw of no other shade", AreaPicker::new, p -> p.draw(0, 0, 15, 9, 50));
        Bound.undoable("draw of the first line", AreaPicker::new, p -> p.draw(0, 0, 15, 0, 0));
    }

    private static void drawCounts() {
        AreaPicker p = new AreaPicker();
        Check.same("none is another", p.draw(0, 0, 15, 9, 50), 0);
        Check.same("all are others", p.draw(0, 0, 15, 9, 99), 160);
        Check.same("none again", p.draw(0, 0, 15, 9, 99), 0);
        Check.same("one", p.draw(15, 9, 15, 9, 0), 1);
        Check.same("all but one", p.draw(0, 0, 15, 9, 0), 159);
        Check.same("the last row", p.draw(0, 9, 15, 9, 1), 16);
        Check.same("the last column, but for its last cell", p.draw(15, 0, 15, 9, 1), 9);
        Check.same("those between", p.draw(0, 0, 15, 9, 1), 135);
    }

    private static void drawOutside() {
        int[][] outside = {{-1, 0}, {16, 0}, {0, -1}, {0, 10}, {-1, -1}, {16, 10}, {16, 9}, {15, 10}, {-1, 10}, {16, -1},
            {-16, 1}, {16, -16}, {32, -1}, {Integer.MIN_VALUE, 0}, {0, Integer.MIN_VALUE}, {Integer.MAX_VALUE, 0},
            {0, Integer.MAX_VALUE}, {0, 1 << 28}, {1 << 28, 0}};
        for (int[] c : outside) {
            String cell = "(" + c[0] + ", " + c[1] + ")";
            Bound.refused("draw from " + cell, Check.INDEX, Given::busy, p -> p.draw(c[0], c[1], 3, 3, 7));
            Bound.refused("draw to " + cell, Check.INDEX, Given::busy, p -> p.draw(3, 3, c[0], c[1], 7));
            Bound.refused("draw within " + cell, Check.INDEX, Given::busy, p -> p.draw(c[0], c[1], c[0], c[1], 7));
        }
    }

    private static void drawWithoutShade() {
        int[] shades = {-1, 100, -50, 101, 150, Integer.MIN_VALUE, Integer.MAX_VALUE};
        for (int shade : shades) {
            Bound.refused("draw with " + shade, Check.ARGUMENT, Given::busy, p -> p.draw(0, 0, 15, 9, shade));
            Bound.refused("draw of nothing new with " + shade, Check.ARGUMENT, AreaPicker::new,
                    p -> p.draw(0, 0, 0, 0, shade));
        }
    }

    /** A mask of 100 everywhere. */
    private static AreaPicker wholeMask() {
        AreaPicker p = Given.bare();
        p.toggle(0);
        return p;
    }

    private static void fillsThroughTheMask() {
        AreaPicker empty = new AreaPicker();
        Check.same("fill without picks", empty.fill(0), 0);
        Check.same("the sum then", empty.count(6), 8000);
        AreaPicker out = Given.bare();
        Check.same("fill with a pick that is out", out.fill(0), 0);
        out.toggle(0);
        Check.same("fill with it in again", out.fill(0), 160);
        Check.same("the sum then", out.count(6), 0);
        AreaPicker spot = Given.spot(0, 0);
        spot.pick(0, 0, 0, 0, 0, 20);
        Check.same("fill through a soft pick", spot.fill(99), 9);
        int[][] due = {{0, 0, 99}, {1, 0, 82}, {1, 1, 82}, {2, 0, 66}, {2, 2, 66}, {3, 0, 50}, {15, 0, 50}, {0, 9, 50}};
        for (int[] d : due) {
            Check.same("cell(" + d[0] + ", " + d[1] + ", 0)", spot.cell(d[0], d[1], 0), d[2]);
        }
        AreaPicker taken = Given.spot(8, 5);
        taken.pick(8, 5, 0, 0, 0, 2);
        Check.same("fill through a mask that is 0 everywhere", taken.fill(99), 0);
    }

    private static void fillIsUndoable() {
        Bound.undoable("fill", Given::calm, p -> p.fill(0));
        Bound.undoable("fill of the whole picture", () -> Given.forget(wholeMask()), p -> p.fill(99));
        Bound.undoable("fill of no other shade", () -> Given.forget(wholeMask()), p -> p.fill(50));
        Bound.undoable("fill without picks", AreaPicker::new, p -> p.fill(0));
    }

    private static void fillCounts() {
        AreaPicker p = wholeMask();
        Check.same("none is another", p.fill(50), 0);
        Check.same("all are others", p.fill(99), 160);
        Check.same("none again", p.fill(99), 0);
        p.draw(15, 9, 15, 9, 98);
        Check.same("one", p.fill(99), 1);
        AreaPicker soft = Given.spot(8, 5);
        soft.pick(8, 5, 0, 0, 0, 40);
        Check.same("51: through 20, 40, 60, 80 no cell gets more", soft.fill(51), 1);
        Check.same("52: through 60 and 80 they do", soft.fill(52), 1 + 8 + 16);
        Check.same("47: 51 through 20, 40", soft.fill(47), 1 + 8 + 16 + 24);
    }

    private static void fillWithoutShade() {
        int[] shades = {-1, 100, -50, 101, 150, Integer.MIN_VALUE, Integer.MAX_VALUE};
        for (int shade : shades) {
            Bound.refused("fill with " + shade, Check.ARGUMENT, Given::busy, p -> p.fill(shade));
            Bound.refused("fill without picks with " + shade, Check.ARGUMENT, AreaPicker::new, p -> p.fill(shade));
        }
    }
}
