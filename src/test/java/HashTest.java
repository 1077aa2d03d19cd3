/** Promises 22 and 23: coverage and digest. */
public final class HashTest {
    public static void main(String[] args) {
        coverages();
        digestOfANewObject();
        digestOfAUsedObject();
        digestChangesNothing();
        Check.close();
    }

    private static void covers(AreaPicker p, double due) {
        Check.same("coverage as bits", Double.doubleToLongBits(p.coverage()), Double.doubleToLongBits(due));
    }

    private static void coverages() {
        AreaPicker p = new AreaPicker();
        covers(p, 0.0);
        p.draw(8, 5, 8, 5, 0);
        p.pick(8, 5, 0, 0, 0, 40);
        covers(p, 3300 / 16000.0);
        p.pick(0, 0, 0, 0, 0, 0);
        covers(p, 15900 / 16000.0);
        p.pick(0, 0, 99, 0, 0, 0);
        covers(p, 1.0);
        p.toggle(2);
        p.toggle(1);
        p.toggle(0);
        covers(p, 0.0);
    }

    /** The hash by its own words, asking only what everybody can ask. */
    private static long hashOf(AreaPicker p, String buffer) {
        long hash = 2131;
        for (int what = 0; what <= 8; what++) {
            hash = 31 * hash + p.count(what);
        }
        for (int y = 0; y < 10; y++) {
            for (int x = 0; x < 16; x++) {
                for (int what = 0; what <= 2; what++) {
                    hash = 31 * hash + p.cell(x, y, what);
                }
            }
        }
        int picks = p.count(0);
        for (int pick = 0; pick < picks; pick++) {
            for (int what = 0; what <= 11; what++) {
                hash = 31 * hash + p.picked(pick, what);
            }
        }
        hash = 31 * hash + p.areas(0);
        hash = 31 * hash + p.areas(10);
        for (int gap = 0; gap <= 5; gap++) {
            hash = 31 * hash + p.areaOf(0, 0, 11, 0, gap);
        }
        hash = 31 * hash + Double.doubleToLongBits(p.coverage());
        hash = 31 * hash + buffer.length();
        for (int i = 0; i < buffer.length(); i++) {
            hash = 31 * hash + buffer.charAt(i);
        }
        return hash;
    }

    private static void digestOfANewObject() {
        AreaPicker p = new AreaPicker();
        Check.same("digest of a new object", p.digest(), hashOf(p, ""));
    }

    private static void digestOfAUsedObject() {
        // Ever other levels, so that the bits of many a coverage stand in the hash.
        AreaPicker p = Given.wallWithDoor();
        p.draw(9, 2, 12, 7, 60);
        for (int i = 0; i < 12; i++) {
            p.pick(i, 9 - i % 10, 5 * i, i % 2, i % 6, 10 * (i % 5) + (i * 7 + 1) % 4);
            Check.same("digest with pick " + i, p.digest(), hashOf(p, ""));
        }
        for (int i = 0; i < 12; i++) {
            p.toggle((5 * i) % 12);
            Check.same("digest with toggle " + i, p.digest(), hashOf(p, ""));
        }
        p.fill(33);
        Given.type(p, "~!0");
        Check.same("digest with text", p.digest(), hashOf(p, "~!0"));
        for (int other = 38; other <= 63; other++) {
            AreaPicker two = new AreaPicker();
            two.draw(1, 0, 1, 0, other);
            two.draw(3, 0, 3, 9, 100 - other);
            Check.same("digest with the shade " + other, two.digest(), hashOf(two, ""));
            two.draw(0, 0, 0, 2, other);
            Check.same("digest with a corner of " + other, two.digest(), hashOf(two, ""));
        }
        AreaPicker small = new AreaPicker();
        small.draw(0, 0, 0, 0, 0);
        for (int soft = 0; soft <= 4; soft++) {
            small.pick(0, 0, 0, 0, 0, 10 * soft);
            Check.same("digest with softness " + soft, small.digest(), hashOf(small, ""));
        }
    }

    private static void digestChangesNothing() {
        AreaPicker p = Given.wallWithDoor();
        p.pick(0, 0, 0, 0, 1, 10);
        Given.type(p, "1:2");
        long first = p.digest();
        Check.same("digest again", p.digest(), first);
        Check.same("count(8)", p.count(8), 3);
        Check.same("the text stays", p.load(), 1);
    }
}
