/**
 * Areas of a picture that are picked and filled: picks by likeness from a cell, whose gaps up to a
 * width are bridged, with soft edges; the picks together make the mask through which is filled.
 *
 * <p>A cell is held as one number, its row times 16 plus its column; a row of numbers with one
 * element for each cell is a "row" in the names below.
 */
public final class AreaPicker {
    public static final int NONE = -1;

    private static final int COLUMNS = 16;
    private static final int ROWS = 10;
    private static final int CELLS = COLUMNS * ROWS;
    private static final int SIDES = 4;
    private static final int FIRST_SHADE = 50;
    private static final int MOST_SHADE = 99;
    private static final int FULL = 100;
    private static final int HALF = 50;
    private static final int MOST_GAP = 5;
    private static final int KINDS = 4;
    private static final int MOST_SOFTNESS = 4;
    private static final int SOFTNESS_STEP = 10;
    private static final int MOST_PICKS = 12;
    private static final int MOST_SAVED = 6;
    private static final int MOST_CODES = 60;

    private final State now;
    private final History history;
    private final PictureText text;
    private final AreaFinder finder;
    private final int[] mask;
    private final int[] before;

    public AreaPicker() {
        // Places without a pick hold this one, so that no place is ever null.
        Pick noPick = new Pick(new Found(0, 0, 0, 0, 0, 0, new int[CELLS]), 0, false);
        now = new State(noPick);
        history = new History(noPick);
        text = new PictureText();
        finder = new AreaFinder();
        mask = new int[CELLS];
        before = new int[CELLS];
    }

    // ---- the picture

    public int draw(int x, int y, int u, int v, int shade)
            throws IndexOutOfBoundsException, IllegalArgumentException {
        needCell(x, y);
        needCell(u, v);
        needRange(shade, 0, MOST_SHADE);
        history.keep(now);
        int lastRow = Math.max(y, v);
        int lastColumn = Math.max(x, u);
        int changed = 0;
        for (int row = Math.min(y, v); row <= lastRow; row++) {
            for (int column = Math.min(x, u); column <= lastColumn; column++) {
                changed += now.paint(cellAt(column, row), shade);
            }
        }
        return changed;
    }

    public int fill(int shade) throws IllegalArgumentException {
        needRange(shade, 0, MOST_SHADE);
        history.keep(now);
        now.makeMask(mask);
        int changed = 0;
        for (int cell = 0; cell < CELLS; cell++) {
            int old = now.shades[cell];
            changed += now.paint(cell, old + (shade - old) * mask[cell] / FULL);
        }
        return changed;
    }

    // ---- picks

    public int pick(int x, int y, int likeness, int way, int gap, int kind)
            throws IndexOutOfBoundsException, IllegalArgumentException, IllegalStateException {
        needCell(x, y);
        needSearch(likeness, way, gap);
        needRange(kind, 0, MOST_SOFTNESS * SOFTNESS_STEP + KINDS - 1);
        needRange(kind % SOFTNESS_STEP, 0, KINDS - 1);
        if (now.pickCount >= MOST_PICKS) {
            throw new IllegalStateException("there are 12 picks");
        }
        history.keep(now);
        int first = cellAt(x, y);
        int softness = kind / SOFTNESS_STEP;
        int size = finder.search(now.shades, first, likeness, way, gap);
        int[] levels = finder.softLevels(softness);
        Found found = new Found(first, likeness, way, gap, softness, finder.width, levels);
        now.addPick(new Pick(found, kind % SOFTNESS_STEP, true));
        return size;
    }

    public int toggle(int pick) throws IndexOutOfBoundsException {
        needPick(pick);
        history.keep(now);
        Pick old = now.picks[pick];
        now.picks[pick] = new Pick(old.found, old.kind, !old.in);
        return old.in ? 0 : 1;
    }

    public int setKind(int pick, int kind)
            throws IndexOutOfBoundsException, IllegalArgumentException {
        needPick(pick);
        needRange(kind, 0, KINDS - 1);
        history.keep(now);
        Pick old = now.picks[pick];
        now.picks[pick] = new Pick(old.found, kind, old.in);
        return old.kind;
    }

    public int reorder(int pick, int to) throws IndexOutOfBoundsException {
        needPick(pick);
        needPick(to);
        history.keep(now);
        now.makeMask(before);
        now.movePick(pick, to);
        now.makeMask(mask);
        return differences(before, mask);
    }

    public int clean() {
        history.keep(now);
        return now.removePicksThatAreOut();
    }

    // ---- texts

    public int append(int code) throws IllegalArgumentException, IllegalStateException {
        needRange(code, PictureText.LEAST_CODE, PictureText.MOST_CODE);
        if (text.length >= MOST_CODES) {
            throw new IllegalStateException("the buffer is full");
        }
        text.add(code);
        return text.length;
    }

    public int clearBuffer() {
        int had = text.length;
        text.length = 0;
        return had;
    }

    public int firstError() {
        return text.firstWrong();
    }

    public int load() throws IllegalArgumentException {
        if (!text.isComplete()) {
            throw new IllegalArgumentException("the buffer is not a complete picture text");
        }
        history.keep(now);
        System.arraycopy(now.shades, 0, before, 0, CELLS);
        text.writeInto(now.shades);
        text.length = 0;
        return differences(before, now.shades);
    }

    public int undo() throws IllegalStateException {
        if (history.kept <= 0) {
            throw new IllegalStateException("there is no saved state");
        }
        history.restore(now);
        return history.kept;
    }

    // ---- what there is

    public int cell(int x, int y, int what)
            throws IndexOutOfBoundsException, IllegalArgumentException {
        needCell(x, y);
        needRange(what, 0, 2);
        return now.cellProperty(cellAt(x, y), what);
    }

    public int picked(int pick, int what)
            throws IndexOutOfBoundsException, IllegalArgumentException {
        needPick(pick);
        needRange(what, 0, 11);
        return now.picks[pick].property(what);
    }

    public int level(int pick, int x, int y) throws IndexOutOfBoundsException {
        needPick(pick);
        needCell(x, y);
        return now.picks[pick].found.levels[cellAt(x, y)];
    }

    public int count(int what) throws IllegalArgumentException {
        needRange(what, 0, 8);
        return number(what);
    }

    // ---- what would be; nothing is changed

    public int areaOf(int x, int y, int likeness, int way, int gap)
            throws IndexOutOfBoundsException, IllegalArgumentException {
        needCell(x, y);
        needSearch(likeness, way, gap);
        return finder.search(now.shades, cellAt(x, y), likeness, way, gap);
    }

    public int leastLikeness(int x, int y, int u, int v, int way, int gap)
            throws IndexOutOfBoundsException, IllegalArgumentException {
        needCell(x, y);
        needCell(u, v);
        needSearch(0, way, gap);
        return finder.leastReaching(now.shades, cellAt(x, y), cellAt(u, v), way, gap);
    }

    public int partingGap(int x, int y, int u, int v, int likeness)
            throws IndexOutOfBoundsException, IllegalArgumentException {
        needCell(x, y);
        needCell(u, v);
        needSearch(likeness, 0, 0);
        return finder.leastParting(now.shades, cellAt(x, y), cellAt(u, v), likeness);
    }

    public int areas(int likeness) throws IllegalArgumentException {
        needSearch(likeness, 0, 0);
        return finder.parts(now.shades, likeness);
    }

    public double coverage() {
        return (double) number(4) / 16000.0;
    }

    public long digest() {
        long hash = 2131L;
        for (int what = 0; what <= 8; what++) {
            hash = mix(hash, number(what));
        }
        hash = mixCells(hash);
        hash = mixPicks(hash);
        hash = mix(hash, finder.parts(now.shades, 0));
        hash = mix(hash, finder.parts(now.shades, 10));
        for (int gap = 0; gap <= MOST_GAP; gap++) {
            hash = mix(hash, finder.search(now.shades, 0, 11, 0, gap));
        }
        hash = mix(hash, bitsOf(coverage()));
        hash = mix(hash, text.length);
        for (int i = 0; i < text.length && i < MOST_CODES; i++) {
            hash = mix(hash, text.codes[i]);
        }
        return hash;
    }

    // ---- the parts of the answers

    private long mixCells(long start) {
        long hash = start;
        for (int cell = 0; cell < CELLS; cell++) {
            for (int what = 0; what <= 2; what++) {
                hash = mix(hash, now.cellProperty(cell, what));
            }
        }
        return hash;
    }

    private long mixPicks(long start) {
        long hash = start;
        for (int i = 0; i < now.pickCount && i < MOST_PICKS; i++) {
            for (int what = 0; what <= 11; what++) {
                hash = mix(hash, now.picks[i].property(what));
            }
        }
        return hash;
    }

    private static long mix(long hash, long value) {
        return 31L * hash + value;
    }

    /** The bits of a share from 0 to 1, as Double.doubleToLongBits has them. */
    private static long bitsOf(double share) {
        if (share <= 0.0) {
            return 0L;
        }
        // Doubling is exact, so the fraction keeps every bit on its way to 1 or more.
        double fraction = share;
        long exponent = 1023L;
        for (int i = 0; i < 64 && fraction < 1.0; i++) {
            fraction = fraction * 2.0;
            exponent--;
        }
        return (exponent << 52) + (long) ((fraction - 1.0) * 4503599627370496.0);
    }

    private int number(int what) {
        switch (what) {
            case 0:
                return now.pickCount;
            case 1:
                return now.picksThatAreIn();
            case 6:
                return sum(now.shades);
            case 7:
                return differentShades(now.shades);
            case 8:
                return history.kept;
            default:
                now.makeMask(mask);
                return maskNumber(what);
        }
    }

    private int maskNumber(int what) {
        switch (what) {
            case 2:
                return atLeast(mask, FULL);
            case 3:
                return atLeast(mask, 1);
            case 4:
                return sum(mask);
            default:
                return edgeLength(mask);
        }
    }

    private static int edgeLength(int[] row) {
        int edge = 0;
        for (int cell = 0; cell < CELLS; cell++) {
            if (row[cell] >= HALF) {
                edge += openSides(row, cell);
            }
        }
        return edge;
    }

    /** Beyond the edge of the picture no level is 50 or more, so such a side counts like others. */
    private static int openSides(int[] row, int cell) {
        int open = 0;
        for (int side = 0; side < SIDES; side++) {
            int next = neighbor(cell, side);
            if (next < 0 || row[next] < HALF) {
                open++;
            }
        }
        return open;
    }

    private static int atLeast(int[] row, int level) {
        int cells = 0;
        for (int cell = 0; cell < CELLS; cell++) {
            if (row[cell] >= level) {
                cells++;
            }
        }
        return cells;
    }

    private static int sum(int[] row) {
        int total = 0;
        for (int cell = 0; cell < CELLS; cell++) {
            total += row[cell];
        }
        return total;
    }

    private static int differences(int[] one, int[] other) {
        int cells = 0;
        for (int cell = 0; cell < CELLS; cell++) {
            if (one[cell] != other[cell]) {
                cells++;
            }
        }
        return cells;
    }

    private static int differentShades(int[] shades) {
        // One bit for each shade: those below 50 in the first long, the others in the second.
        long low = 0L;
        long high = 0L;
        for (int cell = 0; cell < CELLS; cell++) {
            int shade = shades[cell];
            if (shade < 50) {
                low |= 1L << shade;
            } else {
                high |= 1L << (shade - 50);
            }
        }
        return Long.bitCount(low) + Long.bitCount(high);
    }

    // ---- cells

    private static boolean isCell(int x, int y) {
        return x >= 0 && x < COLUMNS && y >= 0 && y < ROWS;
    }

    private static int cellAt(int x, int y) {
        return y * COLUMNS + x;
    }

    /** The cell beyond the left, right, upper or lower side (0 to 3), or NONE. */
    private static int neighbor(int cell, int side) {
        int x = cell % COLUMNS + (side == 0 ? -1 : side == 1 ? 1 : 0);
        int y = cell / COLUMNS + (side == 2 ? -1 : side == 3 ? 1 : 0);
        return isCell(x, y) ? cellAt(x, y) : NONE;
    }

    // ---- what the arguments must be

    private static void needCell(int x, int y) {
        if (!isCell(x, y)) {
            throw new IndexOutOfBoundsException("there is no such cell");
        }
    }

    private void needPick(int pick) {
        if (pick < 0 || pick >= now.pickCount || pick >= MOST_PICKS) {
            throw new IndexOutOfBoundsException("there is no such pick");
        }
    }

    private static void needRange(int value, int least, int most) {
        if (value < least || value > most) {
            throw new IllegalArgumentException("an argument is out of range");
        }
    }

    private static void needSearch(int likeness, int way, int gap) {
        needRange(likeness, 0, MOST_SHADE);
        needRange(way, 0, 1);
        needRange(gap, 0, MOST_GAP);
    }

    /** What a pick found when it was made; nothing of it ever changes. */
    private static final class Found {
        private final int first;
        private final int likeness;
        private final int way;
        private final int gap;
        private final int softness;
        private final int width;
        private final int[] levels;

        Found(int first, int likeness, int way, int gap, int softness, int width, int[] levels) {
            this.first = first;
            this.likeness = likeness;
            this.way = way;
            this.gap = gap;
            this.softness = softness;
            this.width = width;
            this.levels = levels;
        }
    }

    /** A pick never changes (another takes its place), so saved states share it with the present one. */
    private static final class Pick {
        private final Found found;
        private final int kind;
        private final boolean in;

        Pick(Found found, int kind, boolean in) {
            this.found = found;
            this.kind = kind;
            this.in = in;
        }

        /** The level of the mask in a cell after this pick, if it was m before. */
        int over(int m, int cell) {
            int p = found.levels[cell];
            switch (kind) {
                case 0:
                    return p;
                case 1:
                    return Math.max(m, p);
                case 2:
                    return Math.min(m, FULL - p);
                default:
                    return Math.min(m, p);
            }
        }

        int property(int what) {
            switch (what) {
                case 0:
                    return found.first % COLUMNS;
                case 1:
                    return found.first / COLUMNS;
                case 2:
                    return found.likeness;
                case 3:
                    return found.way;
                case 4:
                    return found.gap;
                case 5:
                    return kind;
                case 6:
                    return found.softness;
                case 7:
                    return in ? 1 : 0;
                case 8:
                    return found.width;
                case 9:
                    return atLeast(found.levels, FULL);
                case 10:
                    return atLeast(found.levels, 1);
                default:
                    return sum(found.levels);
            }
        }
    }

    /** The picture and the picks: what is saved and restored. */
    private static final class State {
        private final int[] shades = new int[CELLS];
        private final Pick[] picks = new Pick[MOST_PICKS];
        private int pickCount = 0;

        State(Pick noPick) {
            for (int cell = 0; cell < CELLS; cell++) {
                shades[cell] = FIRST_SHADE;
            }
            for (int i = 0; i < MOST_PICKS; i++) {
                picks[i] = noPick;
            }
        }

        void become(State other) {
            System.arraycopy(other.shades, 0, shades, 0, CELLS);
            for (int i = 0; i < MOST_PICKS; i++) {
                picks[i] = other.picks[i];
            }
            pickCount = other.pickCount;
        }

        /** Returns 1 if the cell had another shade, else 0. */
        int paint(int cell, int shade) {
            int changed = shades[cell] != shade ? 1 : 0;
            shades[cell] = shade;
            return changed;
        }

        void addPick(Pick pick) {
            if (pickCount < MOST_PICKS) {
                picks[pickCount] = pick;
                pickCount++;
            }
        }

        void movePick(int from, int to) {
            Pick moved = picks[from];
            for (int i = from; i < to; i++) {
                picks[i] = picks[i + 1];
            }
            for (int i = from; i > to; i--) {
                picks[i] = picks[i - 1];
            }
            picks[to] = moved;
        }

        int removePicksThatAreOut() {
            int left = 0;
            for (int i = 0; i < pickCount && i < MOST_PICKS; i++) {
                if (picks[i].in) {
                    picks[left] = picks[i];
                    left++;
                }
            }
            int removed = pickCount - left;
            pickCount = left;
            return removed;
        }

        int picksThatAreIn() {
            int in = 0;
            for (int i = 0; i < pickCount && i < MOST_PICKS; i++) {
                if (picks[i].in) {
                    in++;
                }
            }
            return in;
        }

        void makeMask(int[] row) {
            for (int cell = 0; cell < CELLS; cell++) {
                row[cell] = maskLevel(cell);
            }
        }

        private int maskLevel(int cell) {
            int m = 0;
            for (int i = 0; i < pickCount && i < MOST_PICKS; i++) {
                if (picks[i].in) {
                    m = picks[i].over(m, cell);
                }
            }
            return m;
        }

        private int picksOver(int cell) {
            int found = 0;
            for (int i = 0; i < pickCount && i < MOST_PICKS; i++) {
                if (picks[i].found.levels[cell] > 0) {
                    found++;
                }
            }
            return found;
        }

        int cellProperty(int cell, int what) {
            if (what == 0) {
                return shades[cell];
            }
            return what == 1 ? maskLevel(cell) : picksOver(cell);
        }
    }

    /** The saved states, the oldest first; all of them are made once and used again. */
    private static final class History {
        private final State[] states = new State[MOST_SAVED];
        private int kept = 0;

        History(Pick noPick) {
            for (int i = 0; i < MOST_SAVED; i++) {
                states[i] = new State(noPick);
            }
        }

        void keep(State now) {
            if (kept >= MOST_SAVED) {
                dropOldest();
            }
            states[kept].become(now);
            kept++;
        }

        private void dropOldest() {
            State oldest = states[0];
            for (int i = 1; i < MOST_SAVED; i++) {
                states[i - 1] = states[i];
            }
            states[MOST_SAVED - 1] = oldest;
            kept = MOST_SAVED - 1;
        }

        void restore(State now) {
            if (kept > 0) {
                kept--;
                now.become(states[kept]);
            }
        }
    }

    /** The buffer, read from left to right; 0 and more is the number of shades read in a row. */
    private static final class PictureText {
        static final int LEAST_CODE = 33;
        static final int MOST_CODE = 126;
        private static final int WANTS_ROW = -1;
        private static final int WANTS_COLON = -2;
        private static final int WRONG = -3;

        private final int[] codes = new int[MOST_CODES];
        private int length = 0;

        void add(int code) {
            if (length < MOST_CODES) {
                codes[length] = code;
                length++;
            }
        }

        private static boolean isDigit(int code) {
            return code >= '0' && code <= '9';
        }

        private static int placeAfter(int place, int code) {
            if (place == WANTS_ROW) {
                return isDigit(code) ? WANTS_COLON : WRONG;
            }
            if (place == WANTS_COLON) {
                return code == ':' ? 0 : WRONG;
            }
            if (place >= 0 && place < COLUMNS && (isDigit(code) || code == '.')) {
                return place + 1;
            }
            return place > 0 && code == '/' ? WANTS_ROW : WRONG;
        }

        int firstWrong() {
            int place = WANTS_ROW;
            for (int i = 0; i < length && i < MOST_CODES; i++) {
                place = placeAfter(place, codes[i]);
                if (place == WRONG) {
                    return i;
                }
            }
            return length;
        }

        boolean isComplete() {
            int place = WANTS_ROW;
            for (int i = 0; i < length && i < MOST_CODES; i++) {
                place = placeAfter(place, codes[i]);
            }
            return place > 0;
        }

        void writeInto(int[] shades) {
            int place = WANTS_ROW;
            int row = 0;
            for (int i = 0; i < length && i < MOST_CODES; i++) {
                int code = codes[i];
                if (place == WANTS_ROW && isDigit(code)) {
                    row = code - '0';
                }
                if (place >= 0 && place < COLUMNS && isDigit(code)) {
                    shades[cellAt(place, row)] = 11 * (code - '0');
                }
                place = placeAfter(place, code);
            }
        }
    }

    /** Finds areas in rows that are made once; a square is named by its upper left cell. */
    private static final class AreaFinder {
        private final boolean[] alike = new boolean[CELLS];
        private final int[] sides = new int[CELLS];
        private final boolean[] joined = new boolean[CELLS];
        private final boolean[] area = new boolean[CELLS];
        private final int[] queue = new int[CELLS];
        private int queued = 0;
        private int width = 0;

        /** Returns the number of cells of the area. */
        int search(int[] shades, int first, int likeness, int way, int gap) {
            findAlike(shades, first, likeness, way);
            return spread(first, gap);
        }

        int leastReaching(int[] shades, int first, int other, int way, int gap) {
            int before = 0;
            for (int likeness = 0; likeness <= MOST_SHADE; likeness++) {
                int found = findAlike(shades, first, likeness, way);
                // A greater likeness loses no alike cell: as many cells are the same cells, with
                // the same area.
                if (found != before && alike[other]) {
                    spread(first, gap);
                    if (area[other]) {
                        return likeness;
                    }
                }
                before = found;
            }
            return NONE;
        }

        int leastParting(int[] shades, int first, int other, int likeness) {
            findAlike(shades, first, likeness, 0);
            for (int gap = 0; gap <= MOST_GAP; gap++) {
                spread(first, gap);
                if (!area[other]) {
                    return gap;
                }
            }
            return NONE;
        }

        /** Counts the parts of the picture that steps between alike cells hold together. */
        int parts(int[] shades, int likeness) {
            clear(alike);
            int parts = 0;
            for (int cell = 0; cell < CELLS; cell++) {
                if (!alike[cell]) {
                    flood(shades, cell, likeness);
                    parts++;
                }
            }
            return parts;
        }

        /** Makes the levels of the area that was found last, in a new row. */
        int[] softLevels(int softness) {
            int[] levels = new int[CELLS];
            for (int cell = 0; cell < CELLS; cell++) {
                levels[cell] = area[cell] ? FULL : 0;
            }
            int inner = FULL;
            for (int distance = 1; distance <= softness; distance++) {
                int outer = FULL * (softness + 1 - distance) / (softness + 1);
                addRing(levels, inner, outer);
                inner = outer;
            }
            return levels;
        }

        private static void clear(boolean[] row) {
            for (int cell = 0; cell < CELLS; cell++) {
                row[cell] = false;
            }
        }

        /** Returns the number of alike cells. */
        private int findAlike(int[] shades, int first, int likeness, int way) {
            clear(alike);
            if (way == 1) {
                return flood(shades, first, likeness);
            }
            int found = 0;
            for (int cell = 0; cell < CELLS; cell++) {
                if (Math.abs(shades[cell] - shades[first]) <= likeness) {
                    alike[cell] = true;
                    found++;
                }
            }
            return found;
        }

        /** Returns the number of cells that are reached. */
        private int flood(int[] shades, int first, int likeness) {
            queued = 0;
            enter(alike, first);
            for (int head = 0; head < queued && head < CELLS; head++) {
                int cell = queue[head];
                for (int side = 0; side < SIDES; side++) {
                    int next = neighbor(cell, side);
                    if (next >= 0 && Math.abs(shades[next] - shades[cell]) <= likeness) {
                        enter(alike, next);
                    }
                }
            }
            return queued;
        }

        private void enter(boolean[] row, int cell) {
            if (!row[cell] && queued < CELLS) {
                row[cell] = true;
                queue[queued] = cell;
                queued++;
            }
        }

        /** Finds the area among the alike cells; returns the number of its cells. */
        private int spread(int first, int gap) {
            measureSquares();
            width = gap;
            while (width > 0 && !liesInSquare(first)) {
                width--;
            }
            joinSquaresOver(first);
            for (int head = 0; head < queued && head < CELLS; head++) {
                joinAround(queue[head]);
            }
            return coverSquares();
        }

        /** Finds for each cell how wide the widest square of alike cells is that begins there. */
        private void measureSquares() {
            for (int cell = CELLS - 1; cell >= 0; cell--) {
                int x = cell % COLUMNS;
                int y = cell / COLUMNS;
                int beyond = Math.min(sideAt(x + 1, y), sideAt(x, y + 1));
                sides[cell] = alike[cell] ? 1 + Math.min(beyond, sideAt(x + 1, y + 1)) : 0;
            }
        }

        private int sideAt(int x, int y) {
            return isCell(x, y) ? sides[cellAt(x, y)] : 0;
        }

        private boolean liesInSquare(int cell) {
            int x = cell % COLUMNS;
            int y = cell / COLUMNS;
            for (int row = y - width; row <= y; row++) {
                for (int column = x - width; column <= x; column++) {
                    if (sideAt(column, row) > width) {
                        return true;
                    }
                }
            }
            return false;
        }

        private void joinSquaresOver(int first) {
            clear(joined);
            queued = 0;
            int x = first % COLUMNS;
            int y = first / COLUMNS;
            for (int row = y - width; row <= y; row++) {
                for (int column = x - width; column <= x; column++) {
                    join(column, row);
                }
            }
        }

        private void joinAround(int square) {
            int x = square % COLUMNS;
            int y = square / COLUMNS;
            int reach = Math.max(width, 1);
            for (int down = -reach; down <= reach; down++) {
                for (int right = -reach; right <= reach; right++) {
                    // Single cells have no cell in common: they join by their sides alone.
                    if (width > 0 || down == 0 || right == 0) {
                        join(x + right, y + down);
                    }
                }
            }
        }

        private void join(int x, int y) {
            if (sideAt(x, y) > width) {
                enter(joined, cellAt(x, y));
            }
        }

        /** Returns the number of cells that are covered. */
        private int coverSquares() {
            clear(area);
            for (int i = 0; i < queued && i < CELLS; i++) {
                coverSquare(queue[i]);
            }
            int size = 0;
            for (int cell = 0; cell < CELLS; cell++) {
                if (area[cell]) {
                    size++;
                }
            }
            return size;
        }

        private void coverSquare(int square) {
            int x = square % COLUMNS;
            int y = square / COLUMNS;
            for (int row = y; row <= y + width; row++) {
                for (int column = x; column <= x + width; column++) {
                    if (isCell(column, row)) {
                        area[cellAt(column, row)] = true;
                    }
                }
            }
        }

        private static void addRing(int[] levels, int inner, int outer) {
            for (int cell = 0; cell < CELLS; cell++) {
                if (levels[cell] == 0 && touches(levels, cell, inner)) {
                    levels[cell] = outer;
                }
            }
        }

        private static boolean touches(int[] levels, int cell, int level) {
            int x = cell % COLUMNS;
            int y = cell / COLUMNS;
            for (int row = y - 1; row <= y + 1; row++) {
                for (int column = x - 1; column <= x + 1; column++) {
                    if (isCell(column, row) && levels[cellAt(column, row)] == level) {
                        return true;
                    }
                }
            }
            return false;
        }
    }
}
