/** Promises 14 to 17: cell, picked, level, count. */
public final class PropertiesTest {
    public static void main(String[] args) {
        cellProperties();
        pickedProperties();
        levels();
        counts();
        edges();
        Check.close();
    }

    private static void cellProperties() {
        AreaPicker p = Given.wallWithDoor();
        p.pick(0, 0, 0, 0, 1, 10);
        p.pick(15, 0, 0, 0, 0, 0);
        p.toggle(1);
        Check.same("shade", p.cell(4, 0, 0), 90);
        Check.same("level of the mask", p.cell(4, 0, 1), 50);
        Check.same("picks in the wall", p.cell(4, 0, 2), 1);
        Check.same("picks in the room", p.cell(3, 0, 2), 2);
        Check.same("picks that are out count", p.cell(15, 9, 2), 1);
        Check.same("but not for the mask", p.cell(15, 9, 1), 0);
        Check.refused("cell(-1, 0, 0)", p, Check.INDEX, () -> p.cell(-1, 0, 0));
        Check.refused("cell(16, 0, 3)", p, Check.INDEX, () -> p.cell(16, 0, 3));
        Check.refused("cell(0, -1, 0)", p, Check.INDEX, () -> p.cell(0, -1, 0));
        Check.refused("cell(0, 10, 0)", p, Check.INDEX, () -> p.cell(0, 10, 0));
        Check.refused("cell(0, 0, -1)", p, Check.ARGUMENT, () -> p.cell(0, 0, -1));
        Check.refused("cell(0, 0, 3)", p, Check.ARGUMENT, () -> p.cell(0, 0, 3));
    }

    private static void pickedProperties() {
        AreaPicker p = Given.wallWithDoor();
        p.pick(3, 2, 7, 1, 5, 21);
        int[] due = {3, 2, 7, 1, 5, 1, 2, 1, 3, 40, 60, 40 * 100 + 10 * 66 + 10 * 33};
        for (int what = 0; what < due.length; what++) {
            Check.same("picked(0, " + what + ")", p.picked(0, what), due[what]);
        }
        p.pick(4, 0, 0, 0, 5, 3);
        int[] next = {4, 0, 0, 0, 5, 3, 0, 1, 0, 4, 4, 400};
        for (int what = 0; what < next.length; what++) {
            Check.same("picked(1, " + what + ")", p.picked(1, what), next[what]);
        }
        Check.refused("picked(2, 0)", p, Check.INDEX, () -> p.picked(2, 0));
        Check.refused("picked(-1, 12)", p, Check.INDEX, () -> p.picked(-1, 12));
        Check.refused("picked(0, -1)", p, Check.ARGUMENT, () -> p.picked(0, -1));
        Check.refused("picked(0, 12)", p, Check.ARGUMENT, () -> p.picked(0, 12));
    }

    private static void levels() {
        AreaPicker p = Given.wallWithDoor();
        p.pick(0, 0, 0, 0, 1, 10);
        Check.same("level(0, 15, 9)", p.level(0, 15, 9), 0);
        Check.same("level(0, 3, 9)", p.level(0, 3, 9), 100);
        Check.same("level(0, 4, 9)", p.level(0, 4, 9), 50);
        p.toggle(0);
        Check.same("level of one that is out", p.level(0, 3, 9), 100);
        Check.refused("level(1, 0, 0)", p, Check.INDEX, () -> p.level(1, 0, 0));
        Check.refused("level(-1, 0, 0)", p, Check.INDEX, () -> p.level(-1, 0, 0));
        Check.refused("level(0, -1, 0)", p, Check.INDEX, () -> p.level(0, -1, 0));
        Check.refused("level(0, 16, 0)", p, Check.INDEX, () -> p.level(0, 16, 0));
        Check.refused("level(0, 0, -1)", p, Check.INDEX, () -> p.level(0, 0, -1));
        Check.refused("level(0, 0, 10)", p, Check.INDEX, () -> p.level(0, 0, 10));
    }

    private static void counts() {
        AreaPicker p = Given.wallWithDoor();
        p.pick(0, 0, 0, 0, 1, 20);
        p.pick(15, 0, 0, 0, 0, 1);
        p.toggle(1);
        long[] due = {2, 1, 40, 60, 40 * 100 + 10 * 66 + 10 * 33, 10 + 10 + 2 * 5, 151 * 50 + 9 * 90, 2, 5};
        for (int what = 0; what < due.length; what++) {
            Check.same("count(" + what + ")", p.count(what), due[what]);
        }
        Check.refused("count(-1)", p, Check.ARGUMENT, () -> p.count(-1));
        Check.refused("count(9)", p, Check.ARGUMENT, () -> p.count(9));
        AreaPicker all = new AreaPicker();
        for (int shade = 0; shade < 100; shade++) {
            all.draw(shade % 16, shade / 16, shade % 16, shade / 16, shade);
        }
        Check.same("all shades", all.count(7), 100);
        Check.same("their sum", all.count(6), 4950 + 60 * 50);
        all.draw(0, 0, 0, 0, 99);
        Check.same("all but 0", all.count(7), 99);
        int[] single = {0, 1, 49, 50, 51, 63, 64, 99};
        for (int shade : single) {
            all.draw(0, 0, 15, 9, shade);
            Check.same("only the shade " + shade, all.count(7), 1);
            all.draw(3, 3, 3, 3, 99 - shade);
            Check.same("two shades, " + shade, all.count(7), 2);
        }
    }

    /** Which levels make an edge, and where. */
    private static void edges() {
        AreaPicker whole = new AreaPicker();
        whole.pick(0, 0, 0, 0, 0, 0);
        Check.same("edge of the whole picture", whole.count(5), 52);
        AreaPicker spot = new AreaPicker();
        spot.draw(8, 5, 8, 5, 0);
        spot.pick(8, 5, 0, 0, 0, 0);
        Check.same("edge of a cell", spot.count(5), 4);
        AreaPicker half = new AreaPicker();
        half.draw(8, 5, 8, 5, 0);
        half.pick(8, 5, 0, 0, 0, 10);
        Check.same("levels of 50 are within the edge", half.count(5), 12);
        half.pick(8, 5, 0, 0, 0, 40);
        Check.same("levels of 40 are not", half.count(5), 20);
        AreaPicker ring = new AreaPicker();
        ring.draw(5, 5, 7, 7, 0);
        ring.draw(6, 6, 6, 6, 50);
        ring.pick(5, 5, 0, 0, 0, 0);
        Check.same("an edge within", ring.count(5), 16);
        AreaPicker corner = new AreaPicker();
        corner.draw(15, 9, 15, 9, 0);
        corner.pick(15, 9, 0, 0, 0, 0);
        Check.same("a corner", corner.count(5), 4);
    }
}
