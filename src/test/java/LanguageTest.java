import java.io.IOException;
import java.lang.reflect.Field;
import java.lang.reflect.Method;
import java.lang.reflect.Modifier;
import java.nio.file.Files;
import java.nio.file.Path;
import java.util.Arrays;
import java.util.List;
import java.util.TreeSet;
import java.util.regex.Matcher;
import java.util.regex.Pattern;

/** What can be told by machine of ../shared/LANGUAGE.md. */
public final class LanguageTest {
    private static final String FACE = "arm best chance choose drop end fault feed first fits has holds image kept "
        + "letter match missing octet on row run safe scopes see seed sets status swap taken tells text tree turn "
        + "undo values";
    private static final List<String> FORBIDDEN = List.of("\\bthrow", "\\btry\\b", "\\bcatch\\b", "\\bsynchronized\\b",
        "\\bassert\\b", "->", "::", "\\bimport\\b", "\\bpackage\\b", "Exact\\b", "\\bhashCode\\b", "\\btoString\\b",
        "\\bSystem\\b", "\\bstatic \\{", "\\bstrictfp\\b", "\\bvolatile\\b", "@");

    private static void face() {
        TreeSet<String> names = new TreeSet<>();
        for (Method m : MatchTrees.class.getDeclaredMethods()) {
            if (Modifier.isPublic(m.getModifiers())) {
                names.add(m.getName());
            } else {
                Given.due(m.getName() + " is private", Modifier.isPrivate(m.getModifiers()), true);
            }
        }
        Given.same("the face", String.join(" ", names), FACE);
        for (Field f : MatchTrees.class.getDeclaredFields()) {
            boolean isFace = f.getName().equals("NONE") && Modifier.isPublic(f.getModifiers());
            Given.due(f.getName() + " is private", isFace || Modifier.isPrivate(f.getModifiers()), true);
        }
        List<String> all = Arrays.asList(FACE.split(" "));
        for (Class<?> c : MatchTrees.class.getDeclaredClasses()) {
            Given.due(c.getName() + " is static", Modifier.isStatic(c.getModifiers()), true);
            fields(c);
            for (Method m : c.getDeclaredMethods()) {
                Given.due(m.getName() + " bears no public name", all.contains(m.getName()), false);
                Given.due(m.getName() + " has few parameters", m.getParameterCount() <= 7, true);
            }
        }
        fields(MatchTrees.class);
        Given.due("classes", MatchTrees.class.getDeclaredClasses().length + 1 <= 12, true);
    }

    private static void fields(Class<?> c) {
        int count = 0;
        for (Field f : c.getDeclaredFields()) {
            if (Modifier.isStatic(f.getModifiers())) {
                Given.due(f.getName() + " is final", Modifier.isFinal(f.getModifiers()), true);
            } else {
                count++;
            }
        }
        Given.due("fields of " + c.getName() + ": " + count, count <= 20, true);
    }

    private static void words(String source) {
        String bare = source.replaceAll("(?s)/\\*.*?\\*/", "").replaceAll("//[^\n]*", "").replaceAll("\"[^\"\n]*\"", "\"\"");
        for (String word : FORBIDDEN) {
            Matcher m = Pattern.compile(word).matcher(bare);
            Given.due("source has " + word, m.find(), false);
        }
        boolean ascii = source.chars().allMatch(c -> c < 128);
        Given.due("source is of plain signs", ascii, true);
    }

    /** Methods begin with a line that ends in ") {" at a member's indentation. */
    private static void lengths(String source) {
        String[] lines = source.split("\n");
        for (int i = 0; i < lines.length; i++) {
            Matcher m = Pattern.compile("^(    |        )(?! )[^;=]*\\) \\{$").matcher(lines[i]);
            if (!m.matches() || lines[i].matches("^ *(if|for|while|switch|\\}).*")) {
                continue;
            }
            int end = i;
            while (!lines[end].equals(m.group(1) + "}")) {
                end++;
            }
            Given.due("length of " + lines[i].trim() + " " + (end - i + 1), end - i + 1 <= 60, true);
        }
    }

    public static void main(String[] args) throws IOException {
        String source = Files.readString(Path.of("src/main/java/MatchTrees.java"));
        face();
        words(source);
        lengths(source);
        Given.finish();
    }
}
