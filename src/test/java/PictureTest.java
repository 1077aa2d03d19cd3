/** Promises 1 to 3: a new object, draw, fill. */
public final class PictureTest {
    public static void main(String[] args) {
        newObject();
        drawRectangles();
        drawRefuses();
        fillWithoutMask();
        fillThroughMask();
        fillTruncatesTowardZero();
        fillRefuses();
        Check.close();
    }

    private static void newObject() {
        AreaPicker p = new AreaPicker();
        Check.same("NONE", AreaPicker.NONE, -1);
        for (int y = 0; y < 10; y++) {
            for (int x = 0; x < 16; x++) {
                Check.same("new cell(" + x + ", " + y + ", 0)", p.cell(x, y, 0), 50);
                Check.same("new cell(" + x + ", " + y + ", 1)", p.cell(x, y, 1), 0);
                Check.same("new cell(" + x + ", " + y + ", 2)", p.cell(x, y, 2), 0);
            }
        }
        long[] due = {0, 0, 0, 0, 0, 0, 8000, 1, 0};
        for (int what = 0; what < due.length; what++) {
            Check.same("new count(" + what + ")", p.count(what), due[what]);
        }
        Check.same("new clearBuffer", p.clearBuffer(), 0);
        Check.same("new firstError", p.firstError(), 0);
        Check.same("new areas(0)", p.areas(0), 1);
        Check.refused("new undo", p, Check.STATE, () -> p.undo());
        Check.refused("new picked(0, 0)", p, Check.INDEX, () -> p.picked(0, 0));
        AreaPicker other = new AreaPicker();
        p.draw(0, 0, 0, 0, 1);
        Check.same("another object's cell", other.cell(0, 0, 0), 50);
    }

    private static void drawRectangles() {
        AreaPicker p = new AreaPicker();
        Check.same("draw(2, 3, 5, 4, 70)", p.draw(2, 3, 5, 4, 70), 8);
        Check.same("draw(5, 4, 2, 3, 70)", p.draw(5, 4, 2, 3, 70), 0);
        Check.same("draw(5, 3, 2, 4, 71)", p.draw(5, 3, 2, 4, 71), 8);
        Check.same("draw(2, 4, 5, 3, 72)", p.draw(2, 4, 5, 3, 72), 8);
        Check.same("draw(0, 0, 15, 9, 72)", p.draw(0, 0, 15, 9, 72), 152);
        Check.same("sum of 72", p.count(6), 160 * 72);
        Check.same("draw(15, 9, 15, 9, 0)", p.draw(15, 9, 15, 9, 0), 1);
        Check.same("draw(0, 9, 0, 0, 99)", p.draw(0, 9, 0, 0, 99), 10);
        Check.same("draw(15, 0, 0, 0, 99)", p.draw(15, 0, 0, 0, 99), 15);
        Check.same("cell(15, 9, 0)", p.cell(15, 9, 0), 0);
        Check.same("cell(0, 9, 0)", p.cell(0, 9, 0), 99);
        Check.same("cell(1, 1, 0)", p.cell(1, 1, 0), 72);
        Check.same("saved after draws", p.count(8), 6);
        AreaPicker same = new AreaPicker();
        Check.same("draw that changes nothing", same.draw(1, 1, 2, 2, 50), 0);
        Check.same("is saved all the same", same.count(8), 1);
    }

    private static void drawRefuses() {
        AreaPicker p = new AreaPicker();
        Check.refused("draw(-1, 0, 0, 0, 0)", p, Check.INDEX, () -> p.draw(-1, 0, 0, 0, 0));
        Check.refused("draw(16, 0, 0, 0, 0)", p, Check.INDEX, () -> p.draw(16, 0, 0, 0, 0));
        Check.refused("draw(0, -1, 0, 0, 0)", p, Check.INDEX, () -> p.draw(0, -1, 0, 0, 0));
        Check.refused("draw(0, 10, 0, 0, 0)", p, Check.INDEX, () -> p.draw(0, 10, 0, 0, 0));
        Check.refused("draw(0, 0, -1, 0, 0)", p, Check.INDEX, () -> p.draw(0, 0, -1, 0, 0));
        Check.refused("draw(0, 0, 16, 0, 0)", p, Check.INDEX, () -> p.draw(0, 0, 16, 0, 0));
        Check.refused("draw(0, 0, 0, -1, 0)", p, Check.INDEX, () -> p.draw(0, 0, 0, -1, 0));
        Check.refused("draw(0, 0, 0, 10, 0)", p, Check.INDEX, () -> p.draw(0, 0, 0, 10, 0));
        Check.refused("draw to the greatest int", p, Check.INDEX,
                () -> p.draw(0, 0, Integer.MAX_VALUE, Integer.MIN_VALUE, 0));
        Check.refused("draw shade -1", p, Check.ARGUMENT, () -> p.draw(0, 0, 0, 0, -1));
        Check.refused("draw shade 100", p, Check.ARGUMENT, () -> p.draw(0, 0, 0, 0, 100));
        Check.refused("draw all wrong", p, Check.INDEX, () -> p.draw(0, 0, 0, 10, 100));
    }

    private static void fillWithoutMask() {
        AreaPicker p = new AreaPicker();
        Check.same("fill(0) without picks", p.fill(0), 0);
        Check.same("fill is saved", p.count(8), 1);
        Check.same("sum", p.count(6), 8000);
    }

    private static void fillThroughMask() {
        AreaPicker p = Given.wallWithDoor();
        p.pick(0, 0, 0, 0, 1, 10);
        Check.same("level inside", p.cell(3, 0, 1), 100);
        Check.same("level beside", p.cell(4, 0, 1), 50);
        Check.same("level beyond", p.cell(5, 0, 1), 0);
        Check.same("fill(99)", p.fill(99), 50);
        Check.same("filled", p.cell(3, 0, 0), 99);
        Check.same("90 + 9 * 50 / 100", p.cell(4, 0, 0), 94);
        Check.same("50 + 49 * 50 / 100", p.cell(4, 4, 0), 74);
        Check.same("stays", p.cell(5, 0, 0), 50);
        Check.same("fill(99) again", p.fill(99), 10);
        Check.same("94 + 5 * 50 / 100", p.cell(4, 0, 0), 96);
        Check.same("the pick keeps its levels", p.level(0, 4, 0), 50);
        Check.same("later picks find the fill", p.areaOf(0, 0, 0, 0, 0), 40);
    }

    private static void fillTruncatesTowardZero() {
        AreaPicker p = new AreaPicker();
        p.draw(3, 3, 3, 3, 0);
        p.pick(3, 3, 0, 0, 0, 20);
        Check.same("levels 100, 66, 33", p.level(0, 5, 5), 33);
        p.fill(47);
        Check.same("50 + -3 * 33 / 100 is 50", p.cell(5, 5, 0), 50);
        Check.same("50 + -3 * 66 / 100 is 49", p.cell(4, 4, 0), 49);
        p.fill(0);
        Check.same("50 + -50 * 33 / 100 is 34", p.cell(5, 5, 0), 34);
        p.fill(99);
        Check.same("34 + 65 * 33 / 100 is 55", p.cell(5, 5, 0), 55);
    }

    private static void fillRefuses() {
        AreaPicker p = new AreaPicker();
        p.pick(0, 0, 0, 0, 0, 0);
        Check.refused("fill(-1)", p, Check.ARGUMENT, () -> p.fill(-1));
        Check.refused("fill(100)", p, Check.ARGUMENT, () -> p.fill(100));
        Check.same("fill(99)", p.fill(99), 160);
        Check.same("fill(0)", p.fill(0), 160);
    }
}
