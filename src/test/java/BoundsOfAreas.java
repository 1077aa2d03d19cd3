import java.math.BigInteger;
import java.util.List;
import java.util.function.Supplier;

/** The bounds that the promises 18 to 23 name: areaOf, leastLikeness, partingGap, areas, coverage, digest. */
final class BoundsOfAreas {
    private static final String NO_CELL = "Throws `IndexOutOfBoundsException` if one of the cells does not exist";
    private static final int[][] OUTSIDE = {{-1, 0}, {16, 0}, {0, -1}, {0, 10}, {-1, -1}, {16, 10}, {16, -1}, {-16, 1},
        {32, -1}, {0, 1 << 28}, {1 << 28, 0}, {Integer.MIN_VALUE, 0}, {0, Integer.MAX_VALUE}};

    private BoundsOfAreas() {
    }

    static void ask() {
        areaOfSentences();
        leastLikenessSentences();
        partingGapSentences();
        Doc.section("Promise 21");
        Doc.test("Counts the areas of the picture.", BoundsOfAreas::countsAreas);
        Doc.test("`likeness`: 0 to 99 (the way is 1, the gap is 0)", () -> Bound.takes("likeness", Given::columns, 0, 99,
                Check.ARGUMENT, AreaPicker::areas, n -> n < 5 ? 16 : 1));
        Doc.test("Returns how many different areas there are, if one is found from each cell.",
                BoundsOfAreas::differentAreas);
        Doc.test("Throws `IllegalArgumentException` if likeness is out of range", () -> wrong("areas", AreaPicker::areas, -1,
                100, 101, Integer.MIN_VALUE, Integer.MAX_VALUE));
        Doc.section("Promise 22");
        Doc.test("Returns how much of the picture the mask covers.", BoundsOfAreas::nothingAndAllCovered);
        Doc.test("Returns count(4), as a double, divided by 16000.0.", BoundsOfAreas::justTheQuotient);
        digestSentences();
    }

    private static void areaOfSentences() {
        Doc.section("Promise 18");
        Doc.test("Counts the cells of the area that a pick would find.", BoundsOfAreas::countsLikeAPick);
        Doc.test("`x`: column of its first cell", () -> Bound.takes("x", Given::shortColumns, 0, 15, Check.INDEX,
                (p, n) -> p.areaOf(n, 0, 0, 0, 0), n -> 1 + n % 10));
        Doc.test("`y`: its row", () -> Bound.takes("y", Given::shortRows, 0, 9, Check.INDEX,
                (p, n) -> p.areaOf(0, n, 0, 0, 0), n -> 1 + n));
        Doc.test("`likeness`: 0 to 99", () -> Bound.takes("likeness", Given::columns, 0, 99, Check.ARGUMENT,
                (p, n) -> p.areaOf(0, 0, n, 0, 0), n -> 10 * Math.min(n / 5 + 1, 16)));
        Doc.test("`way`: 0 or 1", () -> Bound.takes("way", Given::columns, 0, 1, Check.ARGUMENT,
                (p, n) -> p.areaOf(0, 0, 5, n, 0), n -> n == 0 ? 20 : 160));
        Doc.test("`gap`: 0 to 5", () -> Bound.takes("gap", () -> Given.wallWithPassage(3), 0, 5, Check.ARGUMENT,
                (p, n) -> p.areaOf(0, 0, 0, 0, n), n -> n < 3 ? 153 : 70));
        Doc.test("Returns the number of cells.", BoundsOfAreas::leastAndMostCells);
        Doc.test("Throws `IndexOutOfBoundsException` if there is no such cell", () -> {
            for (int[] c : OUTSIDE) {
                Bound.refused("areaOf(" + c[0] + ", " + c[1] + ", 0, 0, 0)", Check.INDEX, Given::busy,
                        p -> p.areaOf(c[0], c[1], 0, 0, 0));
                Bound.refused("areaOf(" + c[0] + ", " + c[1] + ", 99, 1, 5)", Check.INDEX, Given::busy,
                        p -> p.areaOf(c[0], c[1], 99, 1, 5));
            }
        });
        Doc.test("Throws `IllegalArgumentException` if another argument is out of range", () -> {
            int most = Integer.MAX_VALUE;
            wrong("areaOf, likeness", (p, n) -> p.areaOf(15, 9, n, 1, 5), -1, 100, 101, Integer.MIN_VALUE, most);
            wrong("areaOf, way", (p, n) -> p.areaOf(15, 9, 99, n, 5), -1, 2, 3, Integer.MIN_VALUE, most);
            wrong("areaOf, gap", (p, n) -> p.areaOf(15, 9, 99, 1, n), -1, 6, 7, 10, 16, Integer.MIN_VALUE, most);
            wrong("areaOf, all", (p, n) -> p.areaOf(15, 9, n, n, n), -1, 100, Integer.MIN_VALUE, most);
        });
    }

    private static void leastLikenessSentences() {
        Doc.section("Promise 19");
        Doc.test("Finds the least likeness with which an area reaches a cell.", BoundsOfAreas::leastOfAll);
        Doc.test("`x`: column of its first cell", () -> Bound.takes("x", Given::columns, 0, 15, Check.INDEX,
                (p, n) -> p.leastLikeness(n, 0, 0, 9, 0, 0), n -> 5 * n));
        Doc.test("`y`: its row", () -> Bound.takes("y", Given::rows, 0, 9, Check.INDEX,
                (p, n) -> p.leastLikeness(0, n, 15, 0, 0, 0), n -> 9 * n));
        Doc.test("`u`: column of the cell that is reached", () -> Bound.takes("u", Given::columns, 0, 15, Check.INDEX,
                (p, n) -> p.leastLikeness(0, 0, n, 9, 0, 0), n -> 5 * n));
        Doc.test("`v`: its row", () -> Bound.takes("v", Given::rows, 0, 9, Check.INDEX,
                (p, n) -> p.leastLikeness(0, 0, 15, n, 0, 0), n -> 9 * n));
        Doc.test("`way`: 0 or 1", () -> Bound.takes("way", Given::columns, 0, 1, Check.ARGUMENT,
                (p, n) -> p.leastLikeness(0, 0, 15, 9, n, 0), n -> n == 0 ? 75 : 5));
        Doc.test("`gap`: 0 to 5", () -> Bound.takes("gap", () -> Given.wallWithPassage(3), 0, 5, Check.ARGUMENT,
                (p, n) -> p.leastLikeness(0, 0, 15, 0, 0, n), n -> n < 3 ? 0 : 40));
        Doc.test("Returns the least likeness, 0 to 99, with which the area contains the cell (with greater ones it need not "
                + "contain it); NONE if there is none.", BoundsOfAreas::likenesses);
        Doc.test(NO_CELL, () -> outside("leastLikeness", 0, (p, c) -> p.leastLikeness(c[0], c[1], c[2], c[3], 1, 5)));
        Doc.test("Throws `IllegalArgumentException` if way or gap is out of range", () -> {
            wrong("leastLikeness, way", (p, n) -> p.leastLikeness(0, 0, 15, 9, n, 5), -1, 2, 3, Integer.MIN_VALUE,
                    Integer.MAX_VALUE);
            wrong("leastLikeness, gap", (p, n) -> p.leastLikeness(0, 0, 15, 9, 1, n), -1, 6, 7, 10, Integer.MIN_VALUE,
                    Integer.MAX_VALUE);
            wrong("leastLikeness to itself, way", (p, n) -> p.leastLikeness(3, 3, 3, 3, n, 0), -1, 2);
            wrong("leastLikeness to itself, gap", (p, n) -> p.leastLikeness(3, 3, 3, 3, 0, n), -1, 6);
        });
    }

    private static void partingGapSentences() {
        Doc.section("Promise 20");
        Doc.test("Finds the least gap that parts two cells.", BoundsOfAreas::partsWithTheLeast);
        Doc.test("`x`: column of the first cell", () -> Bound.takes("x", Given::columns, 0, 15, Check.INDEX,
                (p, n) -> p.partingGap(n, 0, 0, 9, 20), n -> n <= 4 ? -1 : 0));
        Doc.test("`y`: its row", () -> Bound.takes("y", Given::rows, 0, 9, Check.INDEX,
                (p, n) -> p.partingGap(0, n, 15, 0, 36), n -> n <= 4 ? -1 : 0));
        Doc.test("`u`: column of the other cell", () -> Bound.takes("u", Given::columns, 0, 15, Check.INDEX,
                (p, n) -> p.partingGap(0, 0, n, 9, 20), n -> n <= 4 ? -1 : 0));
        Doc.test("`v`: its row", () -> Bound.takes("v", Given::rows, 0, 9, Check.INDEX,
                (p, n) -> p.partingGap(0, 0, 15, n, 36), n -> n <= 4 ? -1 : 0));
        Doc.test("`likeness`: 0 to 99 (the way is 0)", () -> Bound.takes("likeness", Given::columns, 0, 99, Check.ARGUMENT,
                (p, n) -> p.partingGap(0, 0, 15, 9, n), n -> n < 75 ? 0 : -1));
        Doc.test("Returns the least gap, 0 to 5, with which the area does not contain the other cell; NONE if there is none.",
                BoundsOfAreas::gaps);
        Doc.test(NO_CELL, () -> outside("partingGap", 0, (p, c) -> p.partingGap(c[0], c[1], c[2], c[3], 99)));
        Doc.test("Throws `IllegalArgumentException` if likeness is out of range", () -> {
            wrong("partingGap", (p, n) -> p.partingGap(0, 0, 15, 9, n), -1, 100, 101, Integer.MIN_VALUE, Integer.MAX_VALUE);
            wrong("partingGap from itself", (p, n) -> p.partingGap(3, 3, 3, 3, n), -1, 100);
        });
    }

    private static void digestSentences() {
        Doc.section("Promise 23");
        Doc.test("Computes a hash of the whole state.", BoundsOfAreas::hashOfTheWholeState);
        Doc.test("The hash starts at 2131.", BoundsOfAreas::startsAt2131);
        Doc.test("For each value v of the following list, in order, the hash becomes 31 * hash + v, in long arithmetic with "
                + "overflow.", BoundsOfAreas::overflows);
        Doc.test("The values are: count(0) to count(8); for each cell, row by row, its properties 0 to 2; for each pick its "
                + "properties 0 to 11; areas with the likenesses 0 and 10; areaOf the cell (0, 0) with the likeness 11, the "
                + "way 0 and the gaps 0 to 5; the bits of coverage (as Double.doubleToLongBits); the length of the buffer and "
                + "each of its character codes.", BoundsOfAreas::hashesTheValues);
        Doc.test("Returns the hash.", BoundsOfAreas::sameHashAgain);
    }

    private static void wrong(String call, Bound.Asks asks, int... arguments) {
        for (int n : arguments) {
            Bound.refused(call + " " + n, Check.ARGUMENT, Given::busy, p -> asks.with(p, n));
        }
    }

    private interface AsksCells {
        long with(AreaPicker p, int[] cells);
    }

    private static void outside(String call, int within, AsksCells asks) {
        for (int[] c : OUTSIDE) {
            String cell = "(" + c[0] + ", " + c[1] + ")";
            Bound.refused(call + " from " + cell, Check.INDEX, Given::busy,
                    p -> asks.with(p, new int[] {c[0], c[1], within, within}));
            Bound.refused(call + " to " + cell, Check.INDEX, Given::busy,
                    p -> asks.with(p, new int[] {within, within, c[0], c[1]}));
            Bound.refused(call + " within " + cell, Check.INDEX, Given::busy,
                    p -> asks.with(p, new int[] {c[0], c[1], c[0], c[1]}));
        }
    }

    // ---- areaOf

    private static void countsLikeAPick() {
        Supplier<AreaPicker> made = Given::busyPicture;
        for (int gap = 0; gap <= 5; gap++) {
            for (int way = 0; way <= 1; way++) {
                for (int cell = 0; cell < 160; cell += 13) {
                    AreaPicker p = made.get();
                    int x = cell % 16;
                    int y = cell / 16;
                    int count = p.areaOf(x, y, 9, way, gap);
                    Check.same("areaOf makes no pick", p.count(0), 0);
                    Check.same("pick(" + x + ", " + y + ", 9, " + way + ", " + gap + ", 0)",
                            p.pick(x, y, 9, way, gap, 0), count);
                    Check.same("its cells", p.picked(0, 9), count);
                }
            }
        }
        Check.same("with 12 picks", Given.twelve().areaOf(0, 0, 0, 0, 0), 160);
    }

    private static void leastAndMostCells() {
        int[][] cells = {{0, 0}, {15, 0}, {0, 9}, {15, 9}, {8, 5}};
        for (int[] c : cells) {
            AreaPicker p = Given.spot(c[0], c[1]);
            Check.same("one cell", p.areaOf(c[0], c[1], 39, 0, 5), 1);
            Check.same("one cell by steps", p.areaOf(c[0], c[1], 39, 1, 0), 1);
            Check.same("all cells", p.areaOf(c[0], c[1], 40, 0, 5), 160);
            Check.same("all cells by steps", p.areaOf(c[0], c[1], 40, 1, 0), 160);
        }
        AreaPicker p = Given.spot(8, 5);
        Check.same("all cells but one", p.areaOf(0, 0, 39, 0, 0), 159);
    }

    // ---- leastLikeness

    private static void leastOfAll() {
        AreaPicker p = Given.busyPicture();
        for (int cell = 0; cell < 160; cell += 31) {
            int x = cell % 16;
            int y = cell / 16;
            int least = p.leastLikeness(x, y, 15 - x, 9 - y, 0, 2);
            Check.same("the area with it has the cell", holds(x, y, least, 2), 1);
            for (int likeness = 0; likeness < least; likeness++) {
                Check.same("the area with " + likeness + " from (" + x + ", " + y + ")", holds(x, y, likeness, 2), 0);
            }
        }
    }

    /** 1 if the area from a cell of the busy picture holds the cell opposite, else 0. */
    private static int holds(int x, int y, int likeness, int gap) {
        AreaPicker p = Given.busyPicture();
        p.pick(x, y, likeness, 0, gap, 0);
        return p.level(0, 15 - x, 9 - y) == 100 ? 1 : 0;
    }

    private static void likenesses() {
        AreaPicker far = new AreaPicker();
        far.draw(0, 0, 7, 9, 0);
        far.draw(8, 0, 15, 9, 99);
        for (int gap = 0; gap <= 5; gap++) {
            for (int way = 0; way <= 1; way++) {
                Check.same("the greatest", far.leastLikeness(0, 0, 15, 9, way, gap), 99);
                Check.same("the greatest back", far.leastLikeness(15, 9, 0, 0, way, gap), 99);
                Check.same("the least, to itself", far.leastLikeness(15, 9, 15, 9, way, gap), 0);
                Check.same("the least, to one alike", far.leastLikeness(0, 0, 7, 9, way, gap), 0);
            }
        }
        AreaPicker one = new AreaPicker();
        one.draw(8, 0, 15, 9, 51);
        Check.same("one", one.leastLikeness(0, 0, 15, 9, 0, 5), 1);
        AreaPicker around = new AreaPicker();
        around.draw(0, 0, 0, 0, 0);
        around.draw(1, 0, 1, 0, 99);
        Check.same("by steps around", around.leastLikeness(0, 0, 1, 0, 1, 5), 50);
        Check.same("straight", around.leastLikeness(0, 0, 1, 0, 0, 5), 99);
        AreaPicker passage = Given.picture("000000..........", "33..............");
        Check.same("a passage's end with 0", passage.leastLikeness(0, 0, 5, 0, 0, 1), 0);
        Check.same("its area with 33 is a square, without the end", passage.areaOf(0, 0, 33, 0, 1), 4);
        Check.same("the square with 33", passage.leastLikeness(0, 0, 1, 1, 0, 1), 33);
        fromASingleCell();
        neverNone();
    }

    /** A cell that no other one is like is reached from itself with 0; the others with 40 and more. */
    private static void fromASingleCell() {
        for (int cell = 0; cell < 160; cell += 53) {
            int x = cell % 16;
            int y = cell / 16;
            AreaPicker spot = Given.spot(x, y);
            for (int gap = 0; gap <= 5; gap++) {
                for (int way = 0; way <= 1; way++) {
                    String asked = ", from (" + x + ", " + y + ") with the way " + way + " and the gap " + gap;
                    Check.same("to itself alone" + asked, spot.leastLikeness(x, y, x, y, way, gap), 0);
                    Check.same("to another one" + asked, spot.leastLikeness(x, y, 8, 5, way, gap), 40);
                }
            }
        }
    }

    /** With 99 all cells are alike, so that the whole picture is the area, whatever the gap. */
    private static void neverNone() {
        AreaPicker board = Given.picture("0909090909090909", "9090909090909090", "0909090909090909", "9090909090909090",
                "0909090909090909", "9090909090909090", "0909090909090909", "9090909090909090", "0909090909090909",
                "9090909090909090");
        for (int gap = 0; gap <= 5; gap++) {
            Check.same("a board, to a neighbor", board.leastLikeness(0, 0, 1, 0, 0, gap), 99);
            Check.same("a board, to one alike", board.leastLikeness(0, 0, 1, 1, 0, gap), 99);
            Check.same("a board by steps", board.leastLikeness(15, 9, 0, 0, 1, gap), 99);
        }
    }

    // ---- partingGap

    private static void partsWithTheLeast() {
        for (int rows = 0; rows <= 5; rows++) {
            AreaPicker p = Given.wallWithPassage(rows);
            int parting = p.partingGap(0, 0, 15, 9, 0);
            for (int gap = 0; gap <= 5; gap++) {
                AreaPicker q = Given.wallWithPassage(rows);
                q.pick(0, 0, 0, 0, gap, 0);
                Check.same("a passage of " + rows + ", the cell beyond with the gap " + gap, q.level(0, 15, 9),
                        gap < parting ? 100 : 0);
            }
        }
    }

    private static void gaps() {
        for (int rows = 0; rows <= 5; rows++) {
            AreaPicker p = Given.wallWithPassage(rows);
            Check.same("a passage of " + rows, p.partingGap(0, 0, 15, 9, 0), rows);
            Check.same("a passage of " + rows + ", back", p.partingGap(15, 9, 0, 0, 39), rows);
            Check.same("a passage of " + rows + ", with the wall", p.partingGap(0, 0, 15, 9, 40), -1);
        }
        AreaPicker six = Given.wallWithPassage(6);
        Check.same("a passage of 6", six.partingGap(0, 0, 15, 9, 0), AreaPicker.NONE);
        Check.same("from within it, the width shrinks", Given.wallWithPassage(1).partingGap(7, 2, 15, 9, 0), -1);
        Check.same("to itself", six.partingGap(15, 9, 15, 9, 0), -1);
        Check.same("from a single cell to itself", Given.spot(8, 5).partingGap(8, 5, 8, 5, 0), -1);
        Check.same("from a single cell", Given.spot(8, 5).partingGap(8, 5, 8, 6, 39), 0);
        Check.same("with its likeness", Given.spot(8, 5).partingGap(8, 5, 8, 6, 40), -1);
        AreaPicker small = new AreaPicker();
        small.draw(3, 0, 3, 9, 90);
        small.draw(3, 0, 3, 3, 50);
        Check.same("a room of three columns, a passage of four rows", small.partingGap(0, 0, 15, 9, 0), -1);
        Check.same("from the other room to the passage's rows", small.partingGap(15, 9, 0, 0, 0), 4);
        Check.same("from the other room to the rows below", small.partingGap(15, 9, 0, 9, 0), 3);
        AreaPicker again = Given.picture("000000..........", "00..............");
        Check.same("parted with 1 and not with 0", again.partingGap(1, 1, 5, 0, 0), 1);
        Check.same("the end of the tail never", again.partingGap(5, 0, 0, 1, 0), -1);
    }

    // ---- areas

    private static void countsAreas() {
        Check.same("one area", new AreaPicker().areas(0), 1);
        for (int likeness = 0; likeness <= 99; likeness++) {
            Check.same("with " + likeness, Given.spot(8, 5).areas(likeness), likeness < 40 ? 2 : 1);
        }
        AreaPicker p = Given.busyPicture();
        Check.same("areas(99)", p.areas(99), 1);
        Check.same("no saved state more", p.count(8), 6);
    }

    private static void differentAreas() {
        AreaPicker board = new AreaPicker();
        for (int cell = 0; cell < 160; cell++) {
            int x = cell % 16;
            int y = cell / 16;
            board.draw(x, y, x, y, (x + y) % 2 * 99);
        }
        Check.same("each cell is one", board.areas(0), 160);
        Check.same("each cell with 98", board.areas(98), 160);
        Check.same("all are one with 99", board.areas(99), 1);
        AreaPicker halves = new AreaPicker();
        halves.draw(8, 0, 15, 9, 60);
        Check.same("two with 9", halves.areas(9), 2);
        Check.same("one with 10", halves.areas(10), 1);
        AreaPicker apart = new AreaPicker();
        apart.draw(8, 0, 8, 9, 0);
        Check.same("cells alike that are not joined are two", apart.areas(0), 3);
        AreaPicker edge = new AreaPicker();
        edge.draw(15, 3, 15, 3, 7);
        edge.draw(0, 4, 0, 4, 7);
        edge.draw(7, 0, 7, 0, 9);
        edge.draw(7, 9, 7, 9, 9);
        Check.same("over no edge of the picture", edge.areas(0), 5);
        AreaPicker corner = Given.picture("0...............", ".0..............");
        Check.same("over no corner", corner.areas(0), 3);
        Check.same("by steps of the rows", Given.rows().areas(8), 10);
        Check.same("by greater steps of the rows", Given.rows().areas(9), 1);
    }

    // ---- coverage

    private static void covers(String what, AreaPicker p, double due) {
        Check.same(what + ", as bits", Double.doubleToLongBits(p.coverage()), Double.doubleToLongBits(due));
    }

    private static void nothingAndAllCovered() {
        covers("no picks", new AreaPicker(), 0.0);
        covers("a pick that is out", Given.bare(), 0.0);
        covers("twelve of all", Given.twelve(), 1.0);
        AreaPicker takes = new AreaPicker();
        takes.pick(0, 0, 0, 0, 0, 2);
        covers("a pick that takes", takes, 0.0);
        AreaPicker spot = Given.spot(0, 0);
        spot.pick(0, 0, 0, 0, 0, 0);
        covers("a cell", spot, 0.00625);
        spot.pick(1, 0, 0, 0, 0, 1);
        covers("a cell and all others", spot, 1.0);
        spot.toggle(0);
        covers("all but a cell", spot, 0.99375);
    }

    private static void justTheQuotient() {
        for (int level : Given.levels()) {
            for (int other : Given.levels()) {
                AreaPicker p = Given.sources();
                Given.pickLevel(p, level, 0);
                Given.pickLevel(p, other, 1);
                covers("levels " + level + " and " + other, p, (double) p.count(4) / 16000.0);
            }
        }
        covers("busy", Given.busy(), (double) Given.busy().count(4) / 16000.0);
    }

    // ---- digest

    private static void hashesTheValues() {
        String sixty = "~!".repeat(30);
        Hash.check("a new object", AreaPicker::new, "");
        Hash.check("a busy one", Given::busy, "3:1/");
        Hash.check("one without saved states", Given::calm, "3:1/");
        Hash.check("twelve picks", Given::twelve, "");
        Hash.check("rows", Given::rows, "");
        Hash.check("columns", Given::columns, "");
        Hash.check("a buffer of 60", () -> Given.typed(sixty), sixty);
        for (int code = 33; code <= 126; code++) {
            String text = "" + (char) code;
            Hash.check("a buffer of " + text, () -> Given.typed(text), text);
        }
        // Shades near the steps of 10 and 11 that the areas of the list tell apart.
        int[] shades = {38, 39, 40, 41, 59, 60, 61, 62};
        for (int shade : shades) {
            Hash.check("a wall of " + shade, () -> {
                AreaPicker p = new AreaPicker();
                p.draw(3, 0, 3, 9, shade);
                return p;
            }, "");
        }
        for (int rows = 0; rows <= 6; rows++) {
            int passage = rows;
            Hash.check("a passage of " + rows, () -> Given.wallWithPassage(passage), "");
        }
        for (int level : Given.levels()) {
            for (int other : Given.levels()) {
                Hash.check("levels " + level + " and " + other, () -> {
                    AreaPicker p = Given.sources();
                    Given.pickLevel(p, level, 0);
                    Given.pickLevel(p, other, 1);
                    return p;
                }, "");
            }
        }
    }

    private static void startsAt2131() {
        // Without its values' part, the hash of a list of n values is 2131 times the n-th power of 31.
        List<Long> values = Hash.values(AreaPicker::new, "");
        Check.same("values of a new object", values.size(), 9 + 480 + 2 + 6 + 1 + 1);
        long part = 0;
        long power = 1;
        for (int i = values.size() - 1; i >= 0; i--) {
            part += power * values.get(i);
            power *= 31;
        }
        Check.same("the start's part", new AreaPicker().digest() - part, 2131 * power);
    }

    private static void overflows() {
        BigInteger hash = BigInteger.valueOf(2131);
        for (long v : Hash.values(Given::busy, "3:1/")) {
            hash = hash.multiply(BigInteger.valueOf(31)).add(BigInteger.valueOf(v));
        }
        Check.same("bits of the hash without overflow are more than 64:", hash.bitLength() > 64 ? 1 : 0, 1);
        Check.same("digest", Given.busy().digest(), hash.longValue());
        int below = 0;
        for (int i = 0; i < 16; i++) {
            AreaPicker p = Given.spot(i, 0);
            below += p.digest() < 0 ? 1 : 0;
        }
        Check.same("digests are below 0 and above it:", below > 0 && below < 16 ? 1 : 0, 1);
    }

    private static void differs(String what, AreaPicker p, AreaPicker other) {
        Check.same("digests are the same with " + what + ":", p.digest() == other.digest() ? 1 : 0, 0);
    }

    private static void hashOfTheWholeState() {
        AreaPicker p = Given.busy();
        p.append('1');
        differs("another buffer", p, Given.busy());
        p.clearBuffer();
        differs("no buffer", p, Given.busy());
        differs("other saved states", Given.calm(), Given.busy());
        for (int cell = 0; cell < 160; cell += 53) {
            AreaPicker shade = Given.busy();
            int x = cell % 16;
            int y = cell / 16;
            shade.draw(x, y, x, y, (shade.cell(x, y, 0) + 1) % 100);
            differs("another shade", shade, Given.busy());
        }
        AreaPicker out = Given.busy();
        out.toggle(0);
        differs("a pick out", out, Given.busy());
        AreaPicker kind = Given.busy();
        kind.setKind(1, 0);
        differs("another kind of one that is out", kind, Given.busy());
        AreaPicker order = Given.busy();
        order.reorder(0, 2);
        differs("another order", order, Given.busy());
        AreaPicker clean = Given.busy();
        clean.clean();
        differs("a pick less", clean, Given.busy());
    }

    private static void sameHashAgain() {
        AreaPicker p = Given.busy();
        long hash = p.digest();
        for (int i = 0; i < 50; i++) {
            Check.same("digest again", p.digest(), hash);
        }
        Check.same("of a twin", Given.busy().digest(), hash);
        p.draw(0, 0, 0, 0, 7);
        p.undo();
        AreaPicker twin = Given.busy();
        twin.fill(7);
        twin.undo();
        Check.same("after changes that are undone", p.digest(), twin.digest());
        Bound.sameState("a digest changes nothing: ", p, twin);
    }
}
