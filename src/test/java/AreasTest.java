/** Promises 18 to 21: areaOf, leastLikeness, partingGap, areas; and the areas themselves. */
public final class AreasTest {
    public static void main(String[] args) {
        likenessIsInclusive();
        waysDiffer();
        gapsAreBridged();
        squaresJoinAtACorner();
        singleCellsJoinBySides();
        theWidthShrinks();
        areaOfRefuses();
        leastLikenesses();
        leastLikenessIsNotMonotone();
        leastLikenessRefuses();
        partingGaps();
        partingGapRefuses();
        areasOfThePicture();
        Check.close();
    }

    private static void likenessIsInclusive() {
        AreaPicker p = new AreaPicker();
        p.draw(8, 0, 15, 9, 60);
        Check.same("likeness 9", p.areaOf(0, 0, 9, 0, 0), 80);
        Check.same("likeness 10", p.areaOf(0, 0, 10, 0, 0), 160);
        Check.same("likeness 9 from the other", p.areaOf(15, 9, 9, 0, 0), 80);
        Check.same("likeness 10 from the other", p.areaOf(15, 9, 10, 0, 0), 160);
        Check.same("way 1, likeness 9", p.areaOf(0, 0, 9, 1, 0), 80);
        Check.same("way 1, likeness 10", p.areaOf(0, 0, 10, 1, 0), 160);
        Check.same("likeness 99", p.areaOf(0, 0, 99, 0, 5), 160);
    }

    private static void waysDiffer() {
        AreaPicker p = new AreaPicker();
        for (int x = 0; x < 16; x++) {
            p.draw(x, 0, x, 9, 5 * x);
        }
        Check.same("way 0 counts from the first cell", p.areaOf(0, 0, 5, 0, 0), 20);
        Check.same("way 0 to both sides", p.areaOf(8, 0, 5, 0, 0), 30);
        Check.same("way 1 steps on", p.areaOf(0, 0, 5, 1, 0), 160);
        Check.same("way 1 with too little", p.areaOf(0, 0, 4, 1, 0), 10);
        Check.same("way 0, a square of two columns", p.areaOf(0, 0, 5, 0, 1), 20);
        Check.same("way 1 with a gap", p.areaOf(0, 0, 5, 1, 5), 160);
        AreaPicker apart = new AreaPicker();
        apart.draw(8, 0, 8, 9, 0);
        Check.same("way 0 does not leap", apart.areaOf(0, 0, 0, 0, 0), 80);
        Check.same("the cells beyond are alike but not joined", apart.areaOf(15, 0, 0, 0, 0), 70);
    }

    private static void gapsAreBridged() {
        AreaPicker p = Given.wallWithDoor();
        Check.same("gap 0 goes through the door", p.areaOf(0, 0, 0, 0, 0), 151);
        Check.same("gap 1 does not", p.areaOf(0, 0, 0, 0, 1), 40);
        Check.same("from the other room", p.areaOf(15, 0, 0, 0, 1), 110);
        Check.same("way 1 neither", p.areaOf(0, 0, 0, 1, 1), 40);
        Check.same("from the door", p.areaOf(4, 4, 0, 0, 5), 151);
        p.draw(4, 5, 4, 5, 50);
        Check.same("gap 1 goes through two", p.areaOf(0, 0, 0, 0, 1), 152);
        Check.same("gap 2 does not", p.areaOf(0, 0, 0, 0, 2), 40);
        Check.same("from the door of two", p.areaOf(4, 4, 0, 0, 5), 152);
        Check.same("gap 3 in the small room", p.areaOf(0, 0, 0, 0, 3), 40);
        Check.same("gap 5 in the small room", p.areaOf(0, 0, 0, 0, 5), 40);
    }

    private static void squaresJoinAtACorner() {
        // Two squares of 2 x 2 cells that have one cell in common, then two that only touch.
        AreaPicker p = Given.picture("00..............", "000.............", ".00.............");
        Check.same("a cell in common", p.areaOf(0, 0, 0, 0, 1), 7);
        AreaPicker q = Given.picture("00..............", "00..............", "..00............", "..00............");
        Check.same("only a corner touches", q.areaOf(0, 0, 0, 0, 1), 4);
        AreaPicker r = Given.picture("0000............", "0000............");
        Check.same("side by side, and one between", r.areaOf(0, 0, 0, 0, 1), 8);
        AreaPicker s = Given.picture("00..............", "00..............", ".00.............", ".00.............");
        Check.same("they touch by a side of one cell", s.areaOf(0, 0, 0, 0, 1), 4);
        Check.same("with gap 0 they are one", s.areaOf(0, 0, 0, 0, 0), 8);
    }

    private static void singleCellsJoinBySides() {
        AreaPicker p = Given.picture("0...............", ".0..............");
        Check.same("a corner does not join cells", p.areaOf(0, 0, 0, 0, 0), 1);
        Check.same("nor with way 1", p.areaOf(0, 0, 0, 1, 0), 1);
        AreaPicker edge = Given.picture("...............0", "0...............");
        Check.same("a row does not go on in the next", edge.areaOf(15, 0, 0, 0, 0), 1);
        Check.same("nor back", edge.areaOf(0, 1, 0, 1, 0), 1);
    }

    private static void theWidthShrinks() {
        AreaPicker p = Given.picture("000.............", "000.............", "000.............", ".0..............", ".0..............");
        Check.same("pick(0, 0) with gap 5", p.pick(0, 0, 0, 0, 5, 0), 9);
        Check.same("its width", p.picked(0, 8), 2);
        Check.same("pick(1, 4) with gap 5", p.pick(1, 4, 0, 0, 5, 0), 11);
        Check.same("its width", p.picked(1, 8), 0);
        Check.same("pick(2, 2) with gap 1", p.pick(2, 2, 0, 0, 1, 0), 9);
        Check.same("its width", p.picked(2, 8), 1);
        AreaPicker whole = new AreaPicker();
        Check.same("the last cell", whole.pick(15, 9, 0, 0, 5, 0), 160);
        Check.same("its width", whole.picked(0, 8), 5);
        AreaPicker low = new AreaPicker();
        low.draw(0, 6, 15, 9, 0);
        low.draw(0, 0, 4, 5, 1);
        low.pick(2, 2, 0, 0, 5, 0);
        Check.same("5 columns and 6 rows", low.picked(0, 8), 4);
        low.pick(15, 9, 0, 0, 5, 0);
        Check.same("4 rows", low.picked(1, 8), 3);
    }

    private static void areaOfRefuses() {
        AreaPicker p = new AreaPicker();
        Check.refused("areaOf(-1, 0)", p, Check.INDEX, () -> p.areaOf(-1, 0, 0, 0, 0));
        Check.refused("areaOf(16, 0)", p, Check.INDEX, () -> p.areaOf(16, 0, 100, 2, 6));
        Check.refused("areaOf(0, -1)", p, Check.INDEX, () -> p.areaOf(0, -1, 0, 0, 0));
        Check.refused("areaOf(0, 10)", p, Check.INDEX, () -> p.areaOf(0, 10, 0, 0, 0));
        Check.refused("areaOf likeness -1", p, Check.ARGUMENT, () -> p.areaOf(0, 0, -1, 0, 0));
        Check.refused("areaOf likeness 100", p, Check.ARGUMENT, () -> p.areaOf(0, 0, 100, 0, 0));
        Check.refused("areaOf way -1", p, Check.ARGUMENT, () -> p.areaOf(0, 0, 0, -1, 0));
        Check.refused("areaOf way 2", p, Check.ARGUMENT, () -> p.areaOf(0, 0, 0, 2, 0));
        Check.refused("areaOf gap -1", p, Check.ARGUMENT, () -> p.areaOf(0, 0, 0, 0, -1));
        Check.refused("areaOf gap 6", p, Check.ARGUMENT, () -> p.areaOf(0, 0, 0, 0, 6));
    }

    private static void leastLikenesses() {
        AreaPicker p = Given.wallWithDoor();
        Check.same("to itself", p.leastLikeness(0, 0, 0, 0, 0, 5), 0);
        Check.same("through the door", p.leastLikeness(0, 0, 15, 0, 0, 0), 0);
        Check.same("over the wall", p.leastLikeness(0, 0, 15, 0, 0, 1), 40);
        Check.same("over the wall by steps", p.leastLikeness(0, 0, 15, 0, 1, 1), 40);
        Check.same("to the wall", p.leastLikeness(0, 0, 4, 0, 1, 0), 40);
        Check.same("from the wall", p.leastLikeness(4, 0, 4, 9, 0, 0), 40);
        AreaPicker q = new AreaPicker();
        for (int x = 0; x < 16; x++) {
            q.draw(x, 0, x, 9, 5 * x);
        }
        Check.same("way 0 to the last column", q.leastLikeness(0, 0, 15, 9, 0, 0), 75);
        Check.same("way 1 to the last column", q.leastLikeness(0, 0, 15, 9, 1, 0), 5);
        AreaPicker far = new AreaPicker();
        far.draw(0, 0, 0, 0, 0);
        far.draw(1, 0, 1, 0, 99);
        Check.same("the greatest likeness", far.leastLikeness(0, 0, 1, 0, 0, 0), 99);
        Check.same("around it by steps", far.leastLikeness(0, 0, 1, 0, 1, 0), 50);
    }

    private static void leastLikenessIsNotMonotone() {
        // From the tail of one cell the area is found with the width 0 first, then with 1.
        AreaPicker p = Given.picture("000000..........", "9...............");
        p.draw(0, 1, 1, 1, 3);
        Check.same("likeness 2: a passage", p.areaOf(0, 0, 2, 0, 1), 6);
        Check.same("likeness 3: a square", p.areaOf(0, 0, 3, 0, 1), 4);
        Check.same("the passage's end", p.leastLikeness(0, 0, 5, 0, 0, 1), 0);
        Check.same("the square", p.leastLikeness(0, 0, 1, 1, 0, 1), 3);
        Check.same("the passage's end with gap 1 and likeness 3", p.partingGap(0, 0, 5, 0, 3), 1);
    }

    private static void leastLikenessRefuses() {
        AreaPicker p = new AreaPicker();
        Check.refused("leastLikeness(-1, 0)", p, Check.INDEX, () -> p.leastLikeness(-1, 0, 0, 0, 0, 0));
        Check.refused("leastLikeness(0, 10)", p, Check.INDEX, () -> p.leastLikeness(0, 10, 0, 0, 0, 0));
        Check.refused("leastLikeness to (16, 0)", p, Check.INDEX, () -> p.leastLikeness(0, 0, 16, 0, 2, 0));
        Check.refused("leastLikeness to (0, -1)", p, Check.INDEX, () -> p.leastLikeness(0, 0, 0, -1, 0, 6));
        Check.refused("leastLikeness way 2", p, Check.ARGUMENT, () -> p.leastLikeness(0, 0, 0, 0, 2, 0));
        Check.refused("leastLikeness way -1", p, Check.ARGUMENT, () -> p.leastLikeness(0, 0, 0, 0, -1, 0));
        Check.refused("leastLikeness gap 6", p, Check.ARGUMENT, () -> p.leastLikeness(0, 0, 0, 0, 0, 6));
        Check.refused("leastLikeness gap -1", p, Check.ARGUMENT, () -> p.leastLikeness(0, 0, 0, 0, 0, -1));
    }

    private static void partingGaps() {
        AreaPicker p = Given.wallWithDoor();
        Check.same("the door of one", p.partingGap(0, 0, 15, 0, 0), 1);
        Check.same("to itself", p.partingGap(0, 0, 0, 0, 0), -1);
        Check.same("to the wall", p.partingGap(0, 0, 4, 0, 39), 0);
        Check.same("with the wall", p.partingGap(0, 0, 15, 0, 40), -1);
        Check.same("from the door", p.partingGap(4, 4, 15, 0, 0), -1);
        Check.same("to the door", p.partingGap(0, 0, 4, 4, 0), 1);
        p.draw(4, 5, 4, 5, 50);
        Check.same("the door of two", p.partingGap(0, 0, 15, 0, 0), 2);
        p.draw(4, 6, 4, 6, 50);
        Check.same("the door of three", p.partingGap(0, 0, 15, 0, 0), 3);
        p.draw(4, 7, 4, 7, 50);
        Check.same("the small room holds no greater square", p.partingGap(0, 0, 15, 0, 0), -1);
        Check.same("the great room does", p.partingGap(15, 0, 0, 0, 0), 4);
        AreaPicker rooms = new AreaPicker();
        rooms.draw(7, 0, 7, 9, 0);
        rooms.draw(7, 3, 7, 7, 50);
        Check.same("the door of five", rooms.partingGap(0, 0, 15, 0, 0), 5);
        rooms.draw(7, 2, 7, 2, 50);
        AreaPicker steps = new AreaPicker();
        steps.draw(5, 0, 10, 9, 55);
        steps.draw(11, 0, 15, 9, 60);
        Check.same("the way is 0", steps.partingGap(0, 0, 15, 0, 5), 0);
        Check.same("the way is 0, from between", steps.partingGap(7, 0, 15, 0, 5), -1);
        Check.same("the door of six", rooms.partingGap(0, 0, 15, 0, 0), -1);
    }

    private static void partingGapRefuses() {
        AreaPicker p = new AreaPicker();
        Check.refused("partingGap(16, 0)", p, Check.INDEX, () -> p.partingGap(16, 0, 0, 0, 0));
        Check.refused("partingGap(0, -1)", p, Check.INDEX, () -> p.partingGap(0, -1, 0, 0, 100));
        Check.refused("partingGap to (-1, 0)", p, Check.INDEX, () -> p.partingGap(0, 0, -1, 0, 0));
        Check.refused("partingGap to (0, 10)", p, Check.INDEX, () -> p.partingGap(0, 0, 0, 10, -1));
        Check.refused("partingGap likeness -1", p, Check.ARGUMENT, () -> p.partingGap(0, 0, 0, 0, -1));
        Check.refused("partingGap likeness 100", p, Check.ARGUMENT, () -> p.partingGap(0, 0, 0, 0, 100));
    }

    private static void areasOfThePicture() {
        AreaPicker p = Given.wallWithDoor();
        Check.same("one room and two walls", p.areas(0), 3);
        Check.same("likeness 39", p.areas(39), 3);
        Check.same("likeness 40", p.areas(40), 1);
        AreaPicker steps = new AreaPicker();
        for (int x = 0; x < 16; x++) {
            steps.draw(x, 0, x, 9, 5 * x);
        }
        Check.same("steps of 5, likeness 4", steps.areas(4), 16);
        Check.same("steps of 5, likeness 5", steps.areas(5), 1);
        AreaPicker board = new AreaPicker();
        for (int cell = 0; cell < 160; cell++) {
            int x = cell % 16;
            int y = cell / 16;
            board.draw(x, y, x, y, (x + y) % 2);
        }
        Check.same("a board of squares", board.areas(0), 160);
        Check.same("a board with likeness 99", board.areas(99), 1);
        Check.refused("areas(-1)", p, Check.ARGUMENT, () -> p.areas(-1));
        Check.refused("areas(100)", p, Check.ARGUMENT, () -> p.areas(100));
    }
}
