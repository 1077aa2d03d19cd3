import java.util.ArrayDeque;
import java.util.ArrayList;
import java.util.HashSet;
import java.util.List;
import java.util.Set;
import java.util.TreeSet;
import java.util.regex.Matcher;
import java.util.regex.Pattern;

/**
 * The document once more, as its words say it and without any care for speed: sets of cells, and
 * squares as lists of cells. It shares no code with the program.
 */
public final class Reference {
    private static final Pattern TEXT =
            Pattern.compile("[0-9]:[0-9.]{1,16}(/[0-9]:[0-9.]{1,16})*");

    private record Spot(int x, int y) {
        boolean exists() {
            return 0 <= x && x <= 15 && 0 <= y && y <= 9;
        }

        boolean sharesSide(Spot o) {
            return Math.abs(x - o.x) + Math.abs(y - o.y) == 1;
        }

        int distance(Spot o) {
            return Math.max(Math.abs(x - o.x), Math.abs(y - o.y));
        }
    }

    private record Area(Set<Spot> cells, int width) {
    }

    private static final class Made {
        Spot first;
        int likeness;
        int way;
        int gap;
        int kind;
        int softness;
        int width;
        boolean in = true;
        int[][] levels = new int[16][10];

        Made copy() {
            Made m = new Made();
            m.first = first;
            m.likeness = likeness;
            m.way = way;
            m.gap = gap;
            m.kind = kind;
            m.softness = softness;
            m.width = width;
            m.in = in;
            m.levels = levels;
            return m;
        }
    }

    private static final class All {
        int[][] shades = new int[16][10];
        List<Made> picks = new ArrayList<>();

        All copy() {
            All a = new All();
            for (int x = 0; x < 16; x++) {
                a.shades[x] = shades[x].clone();
            }
            for (Made m : picks) {
                a.picks.add(m.copy());
            }
            return a;
        }
    }

    private static final List<Spot> SPOTS = new ArrayList<>();

    static {
        for (int y = 0; y < 10; y++) {
            for (int x = 0; x < 16; x++) {
                SPOTS.add(new Spot(x, y));
            }
        }
    }

    private All all = new All();
    private final ArrayDeque<All> saved = new ArrayDeque<>();
    private String buffer = "";

    public Reference() {
        for (Spot s : SPOTS) {
            all.shades[s.x][s.y] = 50;
        }
    }

    private static void index(boolean good) {
        if (!good) {
            throw new IndexOutOfBoundsException();
        }
    }

    private static void argument(boolean good) {
        if (!good) {
            throw new IllegalArgumentException();
        }
    }

    private static void state(boolean good) {
        if (!good) {
            throw new IllegalStateException();
        }
    }

    private static boolean within(int v, int least, int most) {
        return least <= v && v <= most;
    }

    private void hasPick(int pick) {
        index(within(pick, 0, all.picks.size() - 1));
    }

    private void save() {
        saved.addLast(all.copy());
        if (saved.size() > 6) {
            saved.removeFirst();
        }
    }

    private int shade(Spot s) {
        return all.shades[s.x][s.y];
    }

    private int changedSince(All old) {
        int n = 0;
        for (Spot s : SPOTS) {
            n += old.shades[s.x][s.y] == shade(s) ? 0 : 1;
        }
        return n;
    }

    private boolean near(Spot a, Spot b, int likeness) {
        return Math.abs(shade(a) - shade(b)) <= likeness;
    }

    private Set<Spot> alike(Spot first, int likeness, int way) {
        Set<Spot> found = new HashSet<>();
        if (way == 0) {
            for (Spot s : SPOTS) {
                if (near(s, first, likeness)) {
                    found.add(s);
                }
            }
            return found;
        }
        ArrayDeque<Spot> open = new ArrayDeque<>(List.of(first));
        found.add(first);
        while (!open.isEmpty()) {
            Spot s = open.pop();
            for (Spot t : List.of(new Spot(s.x + 1, s.y), new Spot(s.x - 1, s.y), new Spot(s.x, s.y + 1), new Spot(s.x, s.y - 1))) {
                if (t.exists() && near(s, t, likeness) && found.add(t)) {
                    open.push(t);
                }
            }
        }
        return found;
    }

    private static List<Set<Spot>> squares(Set<Spot> alike, int w) {
        List<Set<Spot>> found = new ArrayList<>();
        for (Spot s : SPOTS) {
            Set<Spot> square = new HashSet<>();
            for (int i = 0; i <= w; i++) {
                for (int j = 0; j <= w; j++) {
                    square.add(new Spot(s.x + i, s.y + j));
                }
            }
            if (alike.containsAll(square)) {
                found.add(square);
            }
        }
        return found;
    }

    private Area area(Spot first, int likeness, int way, int gap) {
        Set<Spot> alike = alike(first, likeness, way);
        for (int w = gap; ; w--) {
            List<Set<Spot>> squares = squares(alike, w);
            Set<Spot> cells = new HashSet<>();
            for (Set<Spot> q : squares) {
                if (q.contains(first)) {
                    cells.addAll(q);
                }
            }
            if (!cells.isEmpty()) {
                // A square whose cells lie in the area already may be taken again: it adds nothing.
                int before;
                do {
                    before = cells.size();
                    for (Set<Spot> q : squares) {
                        if (joins(q, cells, w)) {
                            cells.addAll(q);
                        }
                    }
                } while (cells.size() > before);
                return new Area(cells, w);
            }
        }
    }

    /**
     * Whether a square has a cell in common with the area's squares, or a side if it is one cell.
     */
    private static boolean joins(Set<Spot> square, Set<Spot> cells, int w) {
        for (Spot s : square) {
            if (w > 0 && cells.contains(s)) {
                return true;
            }
            if (w == 0) {
                for (Spot t : cells) {
                    if (s.sharesSide(t)) {
                        return true;
                    }
                }
            }
        }
        return false;
    }

    private int[][] mask() {
        int[][] m = new int[16][10];
        for (Made p : all.picks) {
            if (p.in) {
                for (Spot s : SPOTS) {
                    int level = p.levels[s.x][s.y];
                    int old = m[s.x][s.y];
                    m[s.x][s.y] = new int[] {
                        level, Math.max(old, level), Math.min(old, 100 - level), Math.min(old, level)
                    }[p.kind];
                }
            }
        }
        return m;
    }

    public int draw(int x, int y, int u, int v, int shade) {
        index(new Spot(x, y).exists() && new Spot(u, v).exists());
        argument(within(shade, 0, 99));
        save();
        for (Spot s : SPOTS) {
            if (within(s.x, Math.min(x, u), Math.max(x, u)) && within(s.y, Math.min(y, v), Math.max(y, v))) {
                all.shades[s.x][s.y] = shade;
            }
        }
        return changedSince(saved.getLast());
    }

    public int fill(int shade) {
        argument(within(shade, 0, 99));
        save();
        int[][] m = mask();
        for (Spot s : SPOTS) {
            int u = shade(s);
            all.shades[s.x][s.y] = u + (shade - u) * m[s.x][s.y] / 100;
        }
        return changedSince(saved.getLast());
    }

    public int pick(int x, int y, int likeness, int way, int gap, int kind) {
        Spot first = new Spot(x, y);
        index(first.exists());
        argument(within(likeness, 0, 99) && within(way, 0, 1) && within(gap, 0, 5));
        boolean good = false;
        for (int s = 0; s <= 4; s++) {
            for (int k = 0; k <= 3; k++) {
                good |= kind == 10 * s + k;
            }
        }
        argument(good);
        state(all.picks.size() < 12);
        save();
        Made m = new Made();
        Area area = area(first, likeness, way, gap);
        m.first = first;
        m.likeness = likeness;
        m.way = way;
        m.gap = gap;
        m.kind = kind % 10;
        m.softness = kind / 10;
        m.width = area.width;
        for (Spot s : SPOTS) {
            int d = 99;
            for (Spot t : area.cells) {
                d = Math.min(d, s.distance(t));
            }
            m.levels[s.x][s.y] = d <= m.softness ? 100 * (m.softness + 1 - d) / (m.softness + 1) : 0;
        }
        all.picks.add(m);
        return area.cells.size();
    }

    public int toggle(int pick) {
        hasPick(pick);
        save();
        Made m = all.picks.get(pick);
        m.in = !m.in;
        return m.in ? 1 : 0;
    }

    public int setKind(int pick, int kind) {
        hasPick(pick);
        argument(within(kind, 0, 3));
        save();
        int old = all.picks.get(pick).kind;
        all.picks.get(pick).kind = kind;
        return old;
    }

    public int reorder(int pick, int to) {
        hasPick(pick);
        hasPick(to);
        save();
        int[][] before = mask();
        all.picks.add(to, all.picks.remove(pick));
        int[][] after = mask();
        int n = 0;
        for (Spot s : SPOTS) {
            n += before[s.x][s.y] == after[s.x][s.y] ? 0 : 1;
        }
        return n;
    }

    public int clean() {
        save();
        int n = all.picks.size();
        all.picks.removeIf(m -> !m.in);
        return n - all.picks.size();
    }

    public int append(int code) {
        argument(within(code, 33, 126));
        state(buffer.length() < 60);
        buffer += (char) code;
        return buffer.length();
    }

    public int clearBuffer() {
        int n = buffer.length();
        buffer = "";
        return n;
    }

    public int firstError() {
        for (int n = 1; n <= buffer.length(); n++) {
            Matcher m = TEXT.matcher(buffer.substring(0, n));
            if (!m.matches() && !m.hitEnd()) {
                return n - 1;
            }
        }
        return buffer.length();
    }

    public int load() {
        argument(TEXT.matcher(buffer).matches());
        save();
        for (String row : buffer.split("/")) {
            for (int x = 0; x < row.length() - 2; x++) {
                if (row.charAt(x + 2) != '.') {
                    all.shades[x][row.charAt(0) - '0'] = 11 * (row.charAt(x + 2) - '0');
                }
            }
        }
        buffer = "";
        return changedSince(saved.getLast());
    }

    public int undo() {
        state(!saved.isEmpty());
        all = saved.removeLast();
        return saved.size();
    }

    public int cell(int x, int y, int what) {
        index(new Spot(x, y).exists());
        argument(within(what, 0, 2));
        if (what == 0) {
            return all.shades[x][y];
        }
        if (what == 1) {
            return mask()[x][y];
        }
        int n = 0;
        for (Made m : all.picks) {
            n += m.levels[x][y] > 0 ? 1 : 0;
        }
        return n;
    }

    public int picked(int pick, int what) {
        hasPick(pick);
        argument(within(what, 0, 11));
        Made m = all.picks.get(pick);
        int full = 0;
        int some = 0;
        int sum = 0;
        for (Spot s : SPOTS) {
            int level = m.levels[s.x][s.y];
            full += level == 100 ? 1 : 0;
            some += level > 0 ? 1 : 0;
            sum += level;
        }
        return new int[] {
            m.first.x, m.first.y, m.likeness, m.way, m.gap, m.kind, m.softness, m.in ? 1 : 0, m.width, full, some, sum
        }[what];
    }

    public int level(int pick, int x, int y) {
        hasPick(pick);
        index(new Spot(x, y).exists());
        return all.picks.get(pick).levels[x][y];
    }

    public int count(int what) {
        argument(within(what, 0, 8));
        int in = 0;
        for (Made m : all.picks) {
            in += m.in ? 1 : 0;
        }
        int[][] mask = mask();
        int full = 0;
        int some = 0;
        int sum = 0;
        int shades = 0;
        Set<Integer> different = new TreeSet<>();
        for (Spot s : SPOTS) {
            int level = mask[s.x][s.y];
            full += level == 100 ? 1 : 0;
            some += level > 0 ? 1 : 0;
            sum += level;
            shades += shade(s);
            different.add(shade(s));
        }
        return new int[] {
            all.picks.size(), in, full, some, sum, edge(mask), shades, different.size(), saved.size()
        }[what];
    }

    private static int edge(int[][] mask) {
        int n = 0;
        for (Spot s : SPOTS) {
            boolean here = mask[s.x][s.y] >= 50;
            if (s.x < 15 && here != mask[s.x + 1][s.y] >= 50) {
                n++;
            }
            if (s.y < 9 && here != mask[s.x][s.y + 1] >= 50) {
                n++;
            }
            if (here) {
                n += (s.x == 0 ? 1 : 0) + (s.x == 15 ? 1 : 0) + (s.y == 0 ? 1 : 0) + (s.y == 9 ? 1 : 0);
            }
        }
        return n;
    }

    public int areaOf(int x, int y, int likeness, int way, int gap) {
        index(new Spot(x, y).exists());
        argument(within(likeness, 0, 99) && within(way, 0, 1) && within(gap, 0, 5));
        return area(new Spot(x, y), likeness, way, gap).cells.size();
    }

    public int leastLikeness(int x, int y, int u, int v, int way, int gap) {
        index(new Spot(x, y).exists() && new Spot(u, v).exists());
        argument(within(way, 0, 1) && within(gap, 0, 5));
        for (int likeness = 0; likeness <= 99; likeness++) {
            if (area(new Spot(x, y), likeness, way, gap).cells.contains(new Spot(u, v))) {
                return likeness;
            }
        }
        return -1;
    }

    public int partingGap(int x, int y, int u, int v, int likeness) {
        index(new Spot(x, y).exists() && new Spot(u, v).exists());
        argument(within(likeness, 0, 99));
        for (int gap = 0; gap <= 5; gap++) {
            if (!area(new Spot(x, y), likeness, 0, gap).cells.contains(new Spot(u, v))) {
                return gap;
            }
        }
        return -1;
    }

    public int areas(int likeness) {
        argument(within(likeness, 0, 99));
        Set<Set<Spot>> different = new HashSet<>();
        for (Spot s : SPOTS) {
            different.add(alike(s, likeness, 1));
        }
        return different.size();
    }

    public double coverage() {
        return (double) count(4) / 16000.0;
    }

    public long digest() {
        List<Long> values = new ArrayList<>();
        for (int what = 0; what <= 8; what++) {
            values.add((long) count(what));
        }
        for (Spot s : SPOTS) {
            for (int what = 0; what <= 2; what++) {
                values.add((long) cell(s.x, s.y, what));
            }
        }
        for (int pick = 0; pick < all.picks.size(); pick++) {
            for (int what = 0; what <= 11; what++) {
                values.add((long) picked(pick, what));
            }
        }
        values.add((long) areas(0));
        values.add((long) areas(10));
        for (int gap = 0; gap <= 5; gap++) {
            values.add((long) areaOf(0, 0, 11, 0, gap));
        }
        values.add(Double.doubleToLongBits(coverage()));
        values.add((long) buffer.length());
        for (char c : buffer.toCharArray()) {
            values.add((long) c);
        }
        long hash = 2131;
        for (long v : values) {
            hash = 31 * hash + v;
        }
        return hash;
    }
}
