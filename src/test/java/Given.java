/** Pictures that the tests begin with. */
final class Given {
    /** Levels that a pick can have in the cell (8, 5) of sources(), with softness and distance. */
    private static final int[][] LEVELS = {
        {0, 0, 1}, {20, 4, 4}, {25, 3, 3}, {33, 2, 2}, {40, 4, 3}, {50, 1, 1},
        {60, 4, 2}, {66, 2, 1}, {75, 3, 1}, {80, 4, 1}, {100, 0, 0},
    };

    private Given() {
    }

    static void type(AreaPicker picker, String text) {
        for (int i = 0; i < text.length(); i++) {
            picker.append(text.charAt(i));
        }
    }

    static AreaPicker typed(String text) {
        AreaPicker picker = new AreaPicker();
        type(picker, text);
        return picker;
    }

    /** Puts a text into the picture, however long it is, row after row. */
    static AreaPicker picture(String... rows) {
        AreaPicker picker = new AreaPicker();
        for (int row = 0; row < rows.length; row++) {
            type(picker, row + ":" + rows[row]);
            picker.load();
        }
        return picker;
    }

    /** A wall of the shade 90 in the column 4, with a passage of one cell in the row 4. */
    static AreaPicker wallWithDoor() {
        AreaPicker picker = new AreaPicker();
        picker.draw(4, 0, 4, 9, 90);
        picker.draw(4, 4, 4, 4, 50);
        return picker;
    }

    /** A wall of the shade 90 in the column 7, with a passage of some rows from the row 2 on. */
    static AreaPicker wallWithPassage(int rows) {
        AreaPicker picker = new AreaPicker();
        picker.draw(7, 0, 7, 9, 90);
        if (rows > 0) {
            picker.draw(7, 2, 7, 1 + rows, 50);
        }
        return picker;
    }

    /** One cell of another shade than all others. */
    static AreaPicker spot(int x, int y) {
        AreaPicker picker = new AreaPicker();
        picker.draw(x, y, x, y, 10);
        return picker;
    }

    /** The shade 50 everywhere, a pick of all cells that is out, a text begun, six saved states. */
    static AreaPicker bare() {
        AreaPicker picker = new AreaPicker();
        for (int shade = 1; shade <= 5; shade++) {
            picker.draw(0, 0, 15, 9, shade);
        }
        picker.pick(2, 2, 0, 0, 1, 21);
        picker.toggle(0);
        picker.draw(0, 0, 15, 9, 50);
        type(picker, "3:1/");
        return picker;
    }

    /** Walls, spots and steps of many shades, without picks; six saved states. */
    static AreaPicker busyPicture() {
        AreaPicker picker = wallWithPassage(3);
        for (int i = 0; i < 16; i++) {
            picker.draw(i, 9 - i / 2, 15 - i / 3, 9 - i / 4, 37 * i % 100);
            picker.draw(i, i * 7 % 10, i, i * 7 % 10, 45 + i);
        }
        return picker;
    }

    /** Walls, three picks of the kinds 0 to 2, the second one out, a text begun, six saved states. */
    static AreaPicker busy() {
        AreaPicker picker = wallWithDoor();
        picker.pick(0, 0, 0, 0, 1, 10);
        picker.pick(4, 1, 5, 1, 5, 21);
        picker.pick(15, 9, 0, 0, 2, 42);
        picker.toggle(1);
        picker.fill(80);
        picker.draw(6, 6, 7, 7, 3);
        type(picker, "3:1/");
        return picker;
    }

    /** Drops all saved states and leaves the rest: six calls that change nothing are undone. */
    static AreaPicker forget(AreaPicker picker) {
        for (int i = 0; i < 6; i++) {
            picker.draw(0, 0, 0, 0, picker.cell(0, 0, 0));
        }
        for (int i = 0; i < 6; i++) {
            picker.undo();
        }
        return picker;
    }

    /** busy() without saved states. */
    static AreaPicker calm() {
        return forget(busy());
    }

    /** Twelve picks from the cells (0, 0) to (11, 0), each of all cells. */
    static AreaPicker twelve() {
        AreaPicker picker = new AreaPicker();
        for (int x = 0; x < 12; x++) {
            picker.pick(x, 0, 0, 0, 0, 1);
        }
        return picker;
    }

    /** The shade of each column is 5 times its number. */
    static AreaPicker columns() {
        AreaPicker picker = new AreaPicker();
        for (int x = 0; x < 16; x++) {
            picker.draw(x, 0, x, 9, 5 * x);
        }
        return picker;
    }

    /** The shade of each row is 9 times its number. */
    static AreaPicker rows() {
        AreaPicker picker = new AreaPicker();
        for (int y = 0; y < 10; y++) {
            picker.draw(0, y, 15, y, 9 * y);
        }
        return picker;
    }

    /** columns(), but in the column x only 1 + x % 10 cells from the row 0 on; the others are 99. */
    static AreaPicker shortColumns() {
        AreaPicker picker = columns();
        for (int x = 0; x < 16; x++) {
            if (x % 10 < 9) {
                picker.draw(x, 1 + x % 10, x, 9, 99);
            }
        }
        return picker;
    }

    /** rows(), but in the row y only 1 + y cells from the column 0 on; the others are 99. */
    static AreaPicker shortRows() {
        AreaPicker picker = rows();
        for (int y = 0; y < 10; y++) {
            picker.draw(1 + y, y, 15, y, 99);
        }
        return picker;
    }

    /** Cells of the shades 0 to 4 from (8, 5) to (12, 5). */
    static AreaPicker sources() {
        AreaPicker picker = new AreaPicker();
        for (int distance = 0; distance <= 4; distance++) {
            picker.draw(8 + distance, 5, 8 + distance, 5, distance);
        }
        return picker;
    }

    static int[] levels() {
        int[] levels = new int[LEVELS.length];
        for (int i = 0; i < levels.length; i++) {
            levels[i] = LEVELS[i][0];
        }
        return levels;
    }

    /** Makes a pick in sources() that has this level in the cell (8, 5). */
    static void pickLevel(AreaPicker picker, int level, int kind) {
        for (int[] l : LEVELS) {
            if (l[0] == level) {
                picker.pick(8 + l[2], 5, 0, 0, 0, 10 * l[1] + kind);
            }
        }
    }
}
