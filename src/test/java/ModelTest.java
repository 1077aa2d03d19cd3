import java.lang.reflect.InvocationTargetException;
import java.lang.reflect.Method;
import java.util.ArrayList;
import java.util.Arrays;
import java.util.Comparator;
import java.util.List;
import java.util.Random;

/**
 * Long runs of calls, each put to the program and to the Reference: every answer and every
 * exception must be the same. The seeds are fixed, so a run that fails fails again.
 */
public final class ModelTest {
    private static final int RUNS = 240;
    /** An object serves 512 calls; the last text of a run may take some sixty more than these. */
    private static final int CALLS = 420;
    private static final int MOST_TOLD = 5;

    private final Random random;
    private final int run;
    private final AreaPicker program = new AreaPicker();
    private final Reference reference = new Reference();
    private final List<String> told = new ArrayList<>();
    private final boolean lucky;
    private boolean failed = false;
    private int asked = 0;
    private int picks = 0;

    private ModelTest(int run) {
        this.run = run;
        this.random = new Random(7919L * run + 11);
        // One run in four asks wrong things more often.
        this.lucky = run % 4 != 0;
    }

    public static void main(String[] args) {
        theFaceIsWhole();
        int runs = args.length > 1 ? Integer.parseInt(args[1]) : RUNS;
        List<Integer> numbers = new ArrayList<>();
        for (int run = 0; run < runs; run++) {
            numbers.add(run);
        }
        List<ModelTest> failed = numbers.parallelStream().map(ModelTest::play).filter(t -> t.failed)
                .sorted(Comparator.comparing(t -> t.run)).toList();
        for (int i = 0; i < failed.size() && i < MOST_TOLD; i++) {
            ModelTest t = failed.get(i);
            System.out.println("run " + t.run + ": " + String.join("; ", t.told));
        }
        if (!failed.isEmpty()) {
            System.out.println(failed.size() + " of " + runs + " runs differ from the reference");
            System.exit(1);
        }
    }

    private static ModelTest play(int run) {
        ModelTest test = new ModelTest(run);
        while (test.asked < CALLS && !test.failed) {
            test.next();
        }
        test.ask("digest");
        return test;
    }

    /** Every public method of the program has one of the same form in the Reference. */
    private static void theFaceIsWhole() {
        List<String> one = new ArrayList<>();
        List<String> other = new ArrayList<>();
        for (Method m : AreaPicker.class.getDeclaredMethods()) {
            if (java.lang.reflect.Modifier.isPublic(m.getModifiers())) {
                one.add(m.getReturnType() + m.getName() + Arrays.toString(m.getParameterTypes()));
            }
        }
        for (Method m : Reference.class.getDeclaredMethods()) {
            if (java.lang.reflect.Modifier.isPublic(m.getModifiers())) {
                other.add(m.getReturnType() + m.getName() + Arrays.toString(m.getParameterTypes()));
            }
        }
        one.sort(null);
        other.sort(null);
        Check.sameText("the face", one.toString(), other.toString());
        Check.same("methods of the face", one.size(), 22);
        Check.close();
    }

    private void ask(String name, int... arguments) {
        asked++;
        String got = answer(program, name, arguments);
        String due = answer(reference, name, arguments);
        String call = name + Arrays.toString(arguments);
        told.add(call + " = " + got);
        if (!got.equals(due)) {
            failed = true;
            told.add("but due is " + due);
        }
    }

    private static String answer(Object object, String name, int... arguments) {
        Class<?>[] types = new Class<?>[arguments.length];
        Arrays.fill(types, int.class);
        try {
            Method method = object.getClass().getMethod(name, types);
            Object answer = method.invoke(object, Arrays.stream(arguments).boxed().toArray());
            return answer instanceof Double d ? Long.toHexString(Double.doubleToLongBits(d)) : answer.toString();
        } catch (InvocationTargetException e) {
            return "throws." + e.getCause().getClass().getSimpleName();
        } catch (ReflectiveOperationException e) {
            throw new IllegalStateException(e);
        }
    }

    /** A number from least to most, now and then one beyond. */
    private int number(int least, int most) {
        if (random.nextInt(lucky ? 400 : 40) == 0) {
            int[] beyond = {least - 1, most + 1, Integer.MIN_VALUE, Integer.MAX_VALUE, -1, 10, 16};
            return beyond[random.nextInt(beyond.length)];
        }
        return least + random.nextInt(most - least + 1);
    }

    private int x() {
        return number(0, 15);
    }

    private int y() {
        return number(0, 9);
    }

    /** Mostly small ones, which part more cells. */
    private int likeness() {
        return random.nextInt(3) == 0 ? number(0, 99) : number(0, 30);
    }

    private int kind() {
        return random.nextInt(lucky ? 100 : 15) == 0 ? number(-1, 60) : 10 * number(0, 4) + number(0, 3);
    }

    /** Mostly one that exists. */
    private int aPick() {
        return number(0, Math.max(0, picks - 1));
    }

    private int shade() {
        return random.nextInt(3) == 0 ? number(0, 99) : 11 * number(0, 9);
    }

    private void next() {
        picks = reference.count(0);
        int choice = random.nextInt(100);
        if (choice < 14) {
            ask("draw", x(), y(), x(), y(), shade());
        } else if (choice < 20) {
            spot();
        } else if (choice < 24) {
            ask("fill", shade());
        } else if (choice < 38) {
            makePick();
        } else if (choice < 43) {
            ask("toggle", aPick());
        } else if (choice < 47) {
            ask("setKind", aPick(), number(0, 3));
        } else if (choice < 52) {
            ask("reorder", aPick(), aPick());
        } else if (choice < 54) {
            ask("clean");
        } else if (choice < 60) {
            text();
        } else if (choice < 66) {
            ask("undo");
        } else {
            question(choice - 66);
        }
    }

    private void spot() {
        int x = x();
        int y = y();
        ask("draw", x, y, x, y, shade());
    }

    private void makePick() {
        int x = x();
        int y = y();
        ask("pick", x, y, likeness(), number(0, 1), number(0, 5), kind());
        ask("picked", reference.count(0) - 1, 8);
        ask("picked", reference.count(0) - 1, 11);
    }

    private void question(int choice) {
        if (choice < 3) {
            ask("cell", x(), y(), number(0, 2));
        } else if (choice < 6) {
            ask("picked", aPick(), number(0, 11));
        } else if (choice < 9) {
            ask("level", aPick(), x(), y());
        } else if (choice < 13) {
            ask("count", number(0, 8));
        } else if (choice < 20) {
            ask("areaOf", x(), y(), likeness(), number(0, 1), number(0, 5));
        } else if (choice < 23) {
            ask("leastLikeness", x(), y(), x(), y(), number(0, 1), number(0, 5));
        } else if (choice < 27) {
            ask("partingGap", x(), y(), x(), y(), likeness());
        } else if (choice < 29) {
            ask("areas", likeness());
        } else if (choice < 31) {
            ask("coverage");
        } else {
            ask("digest");
        }
    }

    private void text() {
        if (random.nextInt(3) == 0) {
            ask("clearBuffer");
        }
        StringBuilder text = new StringBuilder();
        int rows = 1 + random.nextInt(3);
        for (int row = 0; row < rows; row++) {
            text.append(row == 0 ? "" : "/").append(random.nextInt(10)).append(':');
            int length = random.nextInt(20) == 0 ? 17 : random.nextInt(20) == 0 ? 0 : 1 + random.nextInt(16);
            for (int i = 0; i < length; i++) {
                text.append(random.nextInt(6) == 0 ? "." : "" + random.nextInt(4) * 3);
            }
        }
        if (random.nextInt(4) == 0) {
            int at = random.nextInt(text.length());
            text.setCharAt(at, ":/.0a".charAt(random.nextInt(5)));
        }
        for (int i = 0; i < text.length(); i++) {
            ask("append", random.nextInt(500) == 0 ? number(20, 140) : text.charAt(i));
        }
        ask("firstError");
        ask("load");
    }
}
