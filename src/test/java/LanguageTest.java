import java.io.IOException;
import java.lang.reflect.Constructor;
import java.lang.reflect.Executable;
import java.lang.reflect.Field;
import java.lang.reflect.Method;
import java.lang.reflect.Modifier;
import java.nio.file.Files;
import java.nio.file.Path;
import java.util.ArrayList;
import java.util.List;
import java.util.Set;
import java.util.TreeSet;
import java.util.regex.Matcher;
import java.util.regex.Pattern;

/** Those rules of LANGUAGE.md that can be told from the text and the members of the class. */
public final class LanguageTest {
    private static final Set<String> LIBRARY = Set.of(
            "Math.abs", "Math.max", "Math.min", "Long.bitCount", "System.arraycopy");

    public static void main(String[] args) throws IOException {
        String root = args.length > 0 ? args[0] : ".";
        String text = Files.readString(Path.of(root, "src/main/java/AreaPicker.java"));
        String code = withoutCommentsAndTexts(text);
        forbiddenWords(code);
        library(code);
        methodLengths(text);
        face();
        members();
        Check.close();
    }

    private static String withoutCommentsAndTexts(String text) {
        return text.replaceAll("(?s)/\\*.*?\\*/", " ").replaceAll("//[^\n]*", " ").replaceAll("\"[^\"\n]*\"", "\"\"");
    }

    private static void forbiddenWords(String code) {
        String[] words = {
            "\\bimport\\b", "\\bpackage\\b", "->", "::", "\\btry\\b", "\\bcatch\\b", "\\bfinally\\b", "\\bsynchronized\\b",
            "\\bassert\\b", "\\bvar\\b", "\\bNaN\\b", "\\bDouble\\b", "\\bfloat\\b", "Exact\\b", "\\bequals\\b",
            "\\bhashCode\\b", "\\btoString\\b", "\\bThread\\b", "\\bnanoTime\\b", "\\bRandom\\b", "\\bstatic\\s*\\{",
            "\\bwhile \\(true\\)", "\\bprotected\\b", "\"\"\\s*\\+", "\\+\\s*\"\"",
        };
        for (String word : words) {
            Matcher m = Pattern.compile(word).matcher(code);
            Check.sameText("forbidden " + word, m.find() ? m.group() : "", "");
        }
    }

    private static void library(String code) {
        Matcher m = Pattern.compile("\\b[A-Z][A-Za-z]*\\.[a-z]\\w*").matcher(code);
        while (m.find()) {
            Check.sameText("library", LIBRARY.contains(m.group()) || m.group().startsWith("PictureText.") ? "" : m.group(), "");
        }
    }

    /** A member's lines: from the line that opens it to the next brace in the same column. */
    private static void methodLengths(String text) {
        String[] lines = text.split("\n");
        for (int i = 0; i < lines.length; i++) {
            if (opensMethod(lines[i])) {
                int end = i;
                String close = lines[i].replaceAll("\\S.*", "") + "}";
                while (end < lines.length && !lines[end].equals(close)) {
                    end++;
                }
                Check.same("more than 60 lines: " + lines[i].trim(), end - i > 60 ? 1 : 0, 0);
            }
        }
    }

    private static boolean opensMethod(String line) {
        return line.matches(" {4}(public|private) [^=;]*\\(.*")
                || line.matches(" {8}[^=;]*\\(.*\\{") && !line.matches(" *(if|for|while|switch|\\}).*");
    }

    private static void face() {
        Set<String> names = new TreeSet<>();
        for (Method m : AreaPicker.class.getDeclaredMethods()) {
            int flags = m.getModifiers();
            if (Modifier.isPublic(flags)) {
                names.add(m.getName());
            } else {
                Check.sameText("private", Modifier.isPrivate(flags) ? "" : m.getName(), "");
            }
        }
        Check.sameText("the face", names.toString(), "[append, areaOf, areas, cell, clean, clearBuffer, count, coverage, "
                + "digest, draw, fill, firstError, leastLikeness, level, load, partingGap, pick, picked, reorder, setKind, "
                + "toggle, undo]");
        for (Class<?> c : classes()) {
            for (Method m : c.getDeclaredMethods()) {
                boolean bears = names.contains(m.getName()) && !(c == AreaPicker.class && Modifier.isPublic(m.getModifiers()));
                Check.sameText("bears a name of the face", bears ? m.toString() : "", "");
            }
        }
        for (Field f : AreaPicker.class.getDeclaredFields()) {
            boolean open = !Modifier.isPrivate(f.getModifiers()) && !f.getName().equals("NONE");
            Check.sameText("open field", open ? f.getName() : "", "");
        }
        for (Constructor<?> c : AreaPicker.class.getDeclaredConstructors()) {
            Check.sameText("constructor", c.toString(), "public AreaPicker()");
        }
        Check.same("public and final", AreaPicker.class.getModifiers(), Modifier.PUBLIC | Modifier.FINAL);
    }

    private static List<Class<?>> classes() {
        List<Class<?>> classes = new ArrayList<>();
        classes.add(AreaPicker.class);
        classes.addAll(List.of(AreaPicker.class.getDeclaredClasses()));
        return classes;
    }

    private static void members() {
        Check.same("more than 12 classes", classes().size() > 12 ? 1 : 0, 0);
        for (Class<?> c : classes()) {
            int fields = 0;
            for (Field f : c.getDeclaredFields()) {
                boolean fixed = Modifier.isStatic(f.getModifiers());
                fields += fixed ? 0 : 1;
                Check.sameText("static state", fixed && !Modifier.isFinal(f.getModifiers()) ? f.getName() : "", "");
            }
            Check.same("more than 20 fields in " + c.getName(), fields > 20 ? 1 : 0, 0);
            List<Executable> calls = new ArrayList<>(List.of(c.getDeclaredMethods()));
            calls.addAll(List.of(c.getDeclaredConstructors()));
            for (Executable e : calls) {
                Check.sameText("more than 7 parameters", e.getParameterCount() > 7 ? e.toString() : "", "");
            }
        }
    }
}
