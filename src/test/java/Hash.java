import java.util.ArrayList;
import java.util.List;
import java.util.function.Supplier;

/** The digest by the document's words, from what everybody can ask. */
final class Hash {
    private Hash() {
    }

    /** The values of the list. An object serves 512 calls, so several are made and asked. */
    static List<Long> values(Supplier<AreaPicker> made, String buffer) {
        List<Long> values = new ArrayList<>();
        AreaPicker p = made.get();
        for (int what = 0; what <= 8; what++) {
            values.add((long) p.count(what));
        }
        for (int y = 0; y < 10; y++) {
            AreaPicker row = made.get();
            for (int x = 0; x < 16; x++) {
                for (int what = 0; what <= 2; what++) {
                    values.add((long) row.cell(x, y, what));
                }
            }
        }
        int picks = p.count(0);
        for (int pick = 0; pick < picks; pick++) {
            for (int what = 0; what <= 11; what++) {
                values.add((long) p.picked(pick, what));
            }
        }
        values.add((long) p.areas(0));
        values.add((long) p.areas(10));
        for (int gap = 0; gap <= 5; gap++) {
            values.add((long) p.areaOf(0, 0, 11, 0, gap));
        }
        values.add(Double.doubleToLongBits(p.coverage()));
        values.add((long) buffer.length());
        for (int i = 0; i < buffer.length(); i++) {
            values.add((long) buffer.charAt(i));
        }
        return values;
    }

    static void check(String what, Supplier<AreaPicker> made, String buffer) {
        long hash = 2131;
        for (long v : values(made, buffer)) {
            hash = 31 * hash + v;
        }
        Check.same("digest of " + what, made.get().digest(), hash);
    }
}
