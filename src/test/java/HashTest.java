/** Promises 22 and 23: coverage and digest. */
public final class HashTest {
    public static void main(String[] args) {
        coverages();
        digestOfANewObject();
        digestOfAUsedObject();
        digestChangesNothing();
        Check.close();
    }

    private static void covers(AreaPicker p, double due) {
        Check.same("coverage as bits", Double.doubleToLongBits(p.coverage()), Double.doubleToLongBits(due));
    }

    private static void coverages() {
        AreaPicker p = new AreaPicker();
        covers(p, 0.0);
        p.draw(8, 5, 8, 5, 0);
        p.pick(8, 5, 0, 0, 0, 40);
        covers(p, 3300 / 16000.0);
        p.pick(0, 0, 0, 0, 0, 0);
        covers(p, 15900 / 16000.0);
        p.pick(0, 0, 99, 0, 0, 0);
        covers(p, 1.0);
        p.toggle(2);
        p.toggle(1);
        p.toggle(0);
        covers(p, 0.0);
    }

    private static void digestOfANewObject() {
        Hash.check("a new object", AreaPicker::new, "");
    }

    /** Ever other levels, so that the bits of many a coverage stand in the hash. */
    private static AreaPicker used(int picks, int toggles) {
        AreaPicker p = Given.wallWithDoor();
        p.draw(9, 2, 12, 7, 60);
        for (int i = 0; i < picks; i++) {
            p.pick(i, 9 - i % 10, 5 * i, i % 2, i % 6, 10 * (i % 5) + (i * 7 + 1) % 4);
        }
        for (int i = 0; i < toggles; i++) {
            p.toggle((5 * i) % 12);
        }
        return p;
    }

    private static AreaPicker usedAndTyped() {
        AreaPicker p = used(12, 12);
        p.fill(33);
        Given.type(p, "~!0");
        return p;
    }

    private static AreaPicker twoDrawn(int other, boolean corner) {
        AreaPicker p = new AreaPicker();
        p.draw(1, 0, 1, 0, other);
        p.draw(3, 0, 3, 9, 100 - other);
        if (corner) {
            p.draw(0, 0, 0, 2, other);
        }
        return p;
    }

    private static AreaPicker soft(int picks) {
        AreaPicker p = new AreaPicker();
        p.draw(0, 0, 0, 0, 0);
        for (int soft = 0; soft < picks; soft++) {
            p.pick(0, 0, 0, 0, 0, 10 * soft);
        }
        return p;
    }

    private static void digestOfAUsedObject() {
        for (int i = 1; i <= 12; i++) {
            int n = i;
            Hash.check(n + " picks", () -> used(n, 0), "");
            Hash.check(n + " toggles", () -> used(12, n), "");
        }
        Hash.check("text", HashTest::usedAndTyped, "~!0");
        for (int i = 38; i <= 63; i++) {
            int other = i;
            Hash.check("the shade " + other, () -> twoDrawn(other, false), "");
            Hash.check("a corner of " + other, () -> twoDrawn(other, true), "");
        }
        for (int i = 1; i <= 5; i++) {
            int n = i;
            Hash.check(n + " soft picks", () -> soft(n), "");
        }
    }

    private static void digestChangesNothing() {
        AreaPicker p = Given.wallWithDoor();
        p.pick(0, 0, 0, 0, 1, 10);
        Given.type(p, "1:2");
        long first = p.digest();
        Check.same("digest again", p.digest(), first);
        Check.same("count(8)", p.count(8), 3);
        Check.same("the text stays", p.load(), 1);
    }
}
