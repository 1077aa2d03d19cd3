/** Promises 4 to 8: pick, toggle, setKind, reorder, clean. */
public final class PicksTest {
    public static void main(String[] args) {
        pickFindsLevels();
        pickRefuses();
        kindsMakeTheMask();
        togglePutsOutAndIn();
        setKindChanges();
        reorderMoves();
        cleanRemoves();
        cleanLeavesNothingBehind();
        picksKeepTheirLevels();
        softAtTheCorners();
        Check.close();
    }

    private static void pickFindsLevels() {
        AreaPicker p = new AreaPicker();
        p.draw(8, 5, 8, 5, 10);
        Check.same("pick(8, 5, 0, 0, 5, 42)", p.pick(8, 5, 0, 0, 5, 42), 1);
        int[] due = {0, 20, 40, 60, 80, 100, 80, 60, 40, 20, 0, 0, 0};
        for (int i = 0; i < due.length; i++) {
            Check.same("levels of softness 4 at column " + (3 + i), p.level(0, 3 + i, 5), due[i]);
        }
        Check.same("over a corner the distance is 1", p.level(0, 9, 6), 80);
        Check.same("a knight's step has the distance 2", p.level(0, 9, 7), 60);
        p.pick(8, 5, 0, 0, 0, 33);
        Check.same("softness 3, distance 1", p.level(1, 7, 4), 75);
        Check.same("softness 3, distance 3", p.level(1, 5, 5), 25);
        Check.same("softness 3, distance 4", p.level(1, 4, 5), 0);
        p.pick(8, 5, 0, 0, 0, 21);
        Check.same("softness 2, distance 1", p.level(2, 7, 4), 66);
        Check.same("softness 2, distance 2", p.level(2, 8, 3), 33);
        p.pick(8, 5, 0, 0, 0, 10);
        Check.same("softness 1, distance 1", p.level(3, 8, 6), 50);
        Check.same("softness 1, distance 2", p.level(3, 8, 7), 0);
        p.pick(8, 5, 0, 0, 0, 0);
        Check.same("softness 0, distance 1", p.level(4, 8, 6), 0);
        Check.same("softness 0, distance 0", p.level(4, 8, 5), 100);
        Check.same("a pick is in at first", p.picked(4, 7), 1);
        Check.same("picks", p.count(0), 5);
        Check.same("saved", p.count(8), 6);
    }

    private static void pickRefuses() {
        AreaPicker p = new AreaPicker();
        Check.refused("pick(-1, 0)", p, Check.INDEX, () -> p.pick(-1, 0, 0, 0, 0, 0));
        Check.refused("pick(16, 0)", p, Check.INDEX, () -> p.pick(16, 0, 0, 0, 0, 0));
        Check.refused("pick(0, -1)", p, Check.INDEX, () -> p.pick(0, -1, 0, 0, 0, 0));
        Check.refused("pick(0, 10)", p, Check.INDEX, () -> p.pick(0, 10, -1, 2, 6, 4));
        Check.refused("likeness -1", p, Check.ARGUMENT, () -> p.pick(0, 0, -1, 0, 0, 0));
        Check.refused("likeness 100", p, Check.ARGUMENT, () -> p.pick(0, 0, 100, 0, 0, 0));
        Check.refused("way -1", p, Check.ARGUMENT, () -> p.pick(0, 0, 0, -1, 0, 0));
        Check.refused("way 2", p, Check.ARGUMENT, () -> p.pick(0, 0, 0, 2, 0, 0));
        Check.refused("gap -1", p, Check.ARGUMENT, () -> p.pick(0, 0, 0, 0, -1, 0));
        Check.refused("gap 6", p, Check.ARGUMENT, () -> p.pick(0, 0, 0, 0, 6, 0));
        int[] kinds = {-1, -10, 4, 9, 14, 19, 24, 39, 44, 49, 50, 53, Integer.MIN_VALUE, Integer.MAX_VALUE};
        for (int kind : kinds) {
            Check.refused("kind " + kind, p, Check.ARGUMENT, () -> p.pick(0, 0, 0, 0, 0, kind));
        }
        for (int i = 0; i < 12; i++) {
            Check.same("pick " + i, p.pick(15, 9, 99, 1, 5, 43), 160);
        }
        Check.refused("13th pick", p, Check.STATE, () -> p.pick(0, 0, 0, 0, 0, 0));
        Check.refused("13th pick, wrong gap", p, Check.ARGUMENT, () -> p.pick(0, 0, 0, 0, 6, 0));
        Check.refused("13th pick, wrong kind", p, Check.ARGUMENT, () -> p.pick(0, 0, 0, 0, 0, 4));
        Check.refused("13th pick, no cell", p, Check.INDEX, () -> p.pick(0, 10, 0, 0, 0, 4));
        p.toggle(11);
        p.clean();
        Check.same("12th pick again", p.pick(0, 0, 0, 0, 0, 0), 160);
    }

    /** Levels of 75 in the second pick, over 0, 50 or 100 of the first. */
    private static AreaPicker twoPicks(int kind) {
        AreaPicker p = new AreaPicker();
        p.draw(3, 3, 3, 3, 10);
        p.draw(5, 3, 5, 3, 20);
        p.pick(3, 3, 0, 0, 0, 10);
        p.pick(5, 3, 0, 0, 0, 30 + kind);
        return p;
    }

    private static void kindsMakeTheMask() {
        int[][] due = {
            {50, 75, 100, 25, 25},
            {100, 75, 100, 25, 50},
            {50, 25, 0, 0, 50},
            {50, 50, 0, 0, 25},
        };
        int[] xs = {3, 4, 5, 8, 2};
        int[] ys = {3, 3, 3, 3, 4};
        for (int kind = 0; kind < 4; kind++) {
            AreaPicker p = twoPicks(kind);
            for (int i = 0; i < xs.length; i++) {
                Check.same("kind " + kind + " at (" + xs[i] + ", " + ys[i] + ")",
                        p.cell(xs[i], ys[i], 1), due[kind][i]);
            }
        }
        AreaPicker alone = new AreaPicker();
        alone.pick(0, 0, 0, 0, 0, 2);
        Check.same("a pick that takes from nothing", alone.count(4), 0);
        alone.setKind(0, 3);
        Check.same("a pick that crosses with nothing", alone.count(4), 0);
        alone.setKind(0, 1);
        Check.same("a pick that adds to nothing", alone.count(4), 16000);
    }

    private static void togglePutsOutAndIn() {
        AreaPicker p = twoPicks(1);
        Check.refused("toggle(2)", p, Check.INDEX, () -> p.toggle(2));
        Check.refused("toggle(-1)", p, Check.INDEX, () -> p.toggle(-1));
        Check.refused("toggle(the greatest)", p, Check.INDEX, () -> p.toggle(Integer.MAX_VALUE));
        Check.same("toggle(0)", p.toggle(0), 0);
        Check.same("picks in", p.count(1), 1);
        Check.same("picks", p.count(0), 2);
        Check.same("only the second one", p.cell(3, 3, 1), 50);
        Check.same("picks there, in or out", p.cell(3, 3, 2), 2);
        Check.same("picked(0, 7)", p.picked(0, 7), 0);
        Check.same("toggle(0) again", p.toggle(0), 1);
        Check.same("both", p.cell(3, 3, 1), 100);
        Check.same("toggle(1)", p.toggle(1), 0);
        Check.same("only the first one", p.cell(5, 3, 1), 0);
        Check.same("saved after three more", p.count(8), 6);
        p.undo();
        Check.same("undo of toggle", p.picked(1, 7), 1);
        p.undo();
        Check.same("undo of toggle before", p.picked(0, 7), 0);
    }

    private static void setKindChanges() {
        AreaPicker p = twoPicks(0);
        Check.refused("setKind(2, 0)", p, Check.INDEX, () -> p.setKind(2, 0));
        Check.refused("setKind(-1, 4)", p, Check.INDEX, () -> p.setKind(-1, 4));
        Check.refused("setKind(0, 4)", p, Check.ARGUMENT, () -> p.setKind(0, 4));
        Check.refused("setKind(0, -1)", p, Check.ARGUMENT, () -> p.setKind(0, -1));
        Check.refused("setKind(0, 10)", p, Check.ARGUMENT, () -> p.setKind(0, 10));
        Check.same("setKind(1, 3)", p.setKind(1, 3), 0);
        Check.same("picked(1, 5)", p.picked(1, 5), 3);
        Check.same("its softness stays", p.picked(1, 6), 3);
        Check.same("the mask is crossed", p.cell(3, 3, 1), 50);
        Check.same("setKind(1, 3) again", p.setKind(1, 3), 3);
        Check.same("saved", p.count(8), 6);
        p.toggle(1);
        Check.same("setKind of one that is out", p.setKind(1, 2), 3);
        Check.same("it stays out", p.picked(1, 7), 0);
        p.undo();
        Check.same("undo of setKind", p.picked(1, 5), 3);
    }

    private static void reorderMoves() {
        AreaPicker p = new AreaPicker();
        for (int x = 0; x < 5; x++) {
            p.draw(x, 0, x, 0, x);
            p.pick(x, 0, 0, 0, 0, 1);
        }
        Check.same("reorder(1, 3)", p.reorder(1, 3), 0);
        columns(p, "after reorder(1, 3)", 0, 2, 3, 1, 4);
        Check.same("reorder(4, 0)", p.reorder(4, 0), 0);
        columns(p, "after reorder(4, 0)", 4, 0, 2, 3, 1);
        Check.same("reorder(2, 2)", p.reorder(2, 2), 0);
        columns(p, "after reorder(2, 2)", 4, 0, 2, 3, 1);
        Check.same("reorder(0, 4)", p.reorder(0, 4), 0);
        columns(p, "after reorder(0, 4)", 0, 2, 3, 1, 4);
        Check.same("undo", p.undo(), 5);
        columns(p, "after undo", 4, 0, 2, 3, 1);
        p.undo();
        columns(p, "undo of reorder(2, 2)", 4, 0, 2, 3, 1);
        Check.refused("reorder(5, 0)", p, Check.INDEX, () -> p.reorder(5, 0));
        Check.refused("reorder(0, 5)", p, Check.INDEX, () -> p.reorder(0, 5));
        Check.refused("reorder(-1, 0)", p, Check.INDEX, () -> p.reorder(-1, 0));
        Check.refused("reorder(0, -1)", p, Check.INDEX, () -> p.reorder(0, -1));
        reorderTwelve();
        AreaPicker q = twoPicks(0);
        Check.same("two that replace: those with another level", q.reorder(0, 1), 47);
        Check.same("and back", q.reorder(1, 0), 47);
        q.toggle(1);
        Check.same("one is out: nothing changes", q.reorder(0, 1), 0);
    }

    private static void reorderTwelve() {
        AreaPicker p = new AreaPicker();
        for (int x = 0; x < 12; x++) {
            p.pick(x, 0, 0, 0, 0, 1);
        }
        Check.same("reorder(0, 11)", p.reorder(0, 11), 0);
        columns(p, "after reorder(0, 11)", 1, 2, 3, 4, 5, 6, 7, 8, 9, 10, 11, 0);
        Check.same("reorder(11, 10)", p.reorder(11, 10), 0);
        Check.same("reorder(10, 0)", p.reorder(10, 0), 0);
        columns(p, "after all", 0, 1, 2, 3, 4, 5, 6, 7, 8, 9, 10, 11);
        Check.refused("reorder(0, 12)", p, Check.INDEX, () -> p.reorder(0, 12));
    }

    private static void columns(AreaPicker p, String when, int... due) {
        for (int i = 0; i < due.length; i++) {
            Check.same("pick " + i + " " + when, p.picked(i, 0), due[i]);
        }
    }

    private static void cleanRemoves() {
        AreaPicker p = new AreaPicker();
        Check.same("clean without picks", p.clean(), 0);
        Check.same("is saved all the same", p.count(8), 1);
        for (int x = 0; x < 5; x++) {
            p.draw(x, 0, x, 0, x);
            p.pick(x, 0, 0, 0, 0, 1);
        }
        p.toggle(0);
        p.toggle(2);
        p.toggle(4);
        Check.same("clean", p.clean(), 3);
        Check.same("picks", p.count(0), 2);
        columns(p, "after clean", 1, 3);
        Check.refused("picked(2, 0) then", p, Check.INDEX, () -> p.picked(2, 0));
        Check.same("clean again", p.clean(), 0);
        p.undo();
        Check.same("undo", p.undo(), 4);
        Check.same("picks after undo", p.count(0), 5);
        columns(p, "after undo", 0, 1, 2, 3, 4);
        Check.same("out after undo", p.picked(4, 7), 0);
    }

    private static void cleanLeavesNothingBehind() {
        AreaPicker p = twoPicks(1);
        p.pick(3, 3, 0, 0, 0, 3);
        p.toggle(0);
        p.setKind(2, 1);
        Check.same("clean", p.clean(), 1);
        Check.same("picks that are in", p.count(1), 2);
        Check.same("picks over a cell", p.cell(3, 3, 2), 2);
        Check.same("level of the mask", p.cell(2, 2, 1), 25);
        p.reorder(0, 1);
        p.pick(12, 8, 99, 0, 0, 0);
        p.pick(3, 3, 0, 0, 0, 30);
        p.toggle(0);
        p.toggle(1);
        Check.same("clean of the first two", p.clean(), 2);
        Check.same("the last one replaces", p.cell(12, 8, 1), 0);
        Check.same("picks over a far cell", p.cell(12, 8, 2), 1);
        p.toggle(0);
        p.toggle(1);
        Check.same("clean of all", p.clean(), 2);
        Check.same("no pick is in", p.count(1), 0);
        Check.same("no pick over a cell", p.cell(3, 3, 2), 0);
        Check.same("no mask", p.count(4), 0);
        Check.same("nothing to clean", p.clean(), 0);
        Check.refused("toggle(0) then", p, Check.INDEX, () -> p.toggle(0));
    }

    private static void softAtTheCorners() {
        int[][] corners = {{0, 0, 1, 1}, {15, 0, 14, 1}, {0, 9, 1, 8}, {15, 9, 14, 8}};
        for (int[] c : corners) {
            AreaPicker p = new AreaPicker();
            p.draw(c[2], c[3], c[2], c[3], 10);
            p.pick(c[2], c[3], 0, 0, 0, 10);
            Check.same("beside (" + c[0] + ", " + c[1] + ")", p.level(0, c[0], c[1]), 50);
            Check.same("cells", p.picked(0, 10), 9);
            p.draw(c[0], c[1], c[0], c[1], 20);
            p.pick(c[0], c[1], 0, 0, 0, 20);
            Check.same("in (" + c[0] + ", " + c[1] + ")", p.level(1, c[0], c[1]), 100);
            Check.same("cells from there", p.picked(1, 10), 9);
            Check.same("levels from there", p.picked(1, 11), 100 + 3 * 66 + 5 * 33);
        }
    }

    private static void picksKeepTheirLevels() {
        AreaPicker p = Given.wallWithDoor();
        p.pick(0, 0, 0, 0, 1, 10);
        p.draw(0, 0, 15, 9, 7);
        Check.same("cells with the level 100", p.picked(0, 9), 40);
        Check.same("level(0, 4, 0)", p.level(0, 4, 0), 50);
        Check.same("a new one finds the whole picture", p.pick(0, 0, 0, 0, 1, 0), 160);
        p.undo();
        p.undo();
        Check.same("still after undo", p.picked(0, 9), 40);
        Check.same("the wall is back", p.cell(4, 0, 0), 90);
    }
}
