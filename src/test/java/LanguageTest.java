import java.io.IOException;
import java.lang.reflect.Constructor;
import java.lang.reflect.Field;
import java.lang.reflect.Method;
import java.lang.reflect.Modifier;
import java.nio.file.Files;
import java.nio.file.Path;
import java.util.ArrayList;
import java.util.HashSet;
import java.util.List;
import java.util.Set;
import java.util.TreeSet;
import java.util.regex.Matcher;
import java.util.regex.Pattern;

/** What of LANGUAGE.md can be seen from the source and the class: a net with wide meshes, no proof. */
public final class LanguageTest {
    private static final Check CHECK = new Check();

    public static void main(String[] args) throws IOException {
        String source = withoutComments(Files.readString(Path.of("src/main/java/HotWeek.java")));
        words(source);
        face();
        classes();
        methods(source);
        CHECK.end();
    }

    private static String withoutComments(String source) {
        return source.replaceAll("(?s)/\\*.*?\\*/", "").replaceAll("//[^\n]*", "");
    }

    private static void words(String source) {
        String[] forbidden = {"\\bimport\\b", "\\bpackage\\b", "\\bthrows?\\b", "\\btry\\b", "\\bcatch\\b",
            "\\bsynchronized\\b", "\\bassert\\b", "->", "::", "\\bhashCode\\b", "\\btoString\\b", "\\bSystem\\b",
            "\\bRandom\\b", "\\bThread\\b", "\\bvar\\b", "\\bObject\\b", "\\bException\\b", "Exact\\b",
            "\\bprotected\\b", "\\bstatic \\{"};
        for (String word : forbidden) {
            CHECK.due("the source holds " + word, Pattern.compile(word).matcher(source).find() ? 1 : 0, 0);
        }
        CHECK.due("signs 1 to 127", source.chars().allMatch(c -> c > 0 && c < 128) ? 1 : 0, 1);
        Matcher made = Pattern.compile("\\bnew\\b").matcher(source);
        List<Integer> outside = new ArrayList<>();
        while (made.find()) {
            if (!isInConstructor(source, made.start())) {
                outside.add(made.start());
            }
        }
        CHECK.due("objects made outside constructors", outside.size(), 0);
    }

    /** The method around a place begins with the last line of a declaration's shape ahead of it. */
    private static boolean isInConstructor(String source, int place) {
        Matcher m = Pattern.compile("\n +([\\w\\[\\] ]*?)(\\w+)\\([^()]*\\) \\{\n").matcher(source.substring(0, place));
        String name = "";
        while (m.find()) {
            if (!Set.of("if", "for", "while", "switch").contains(m.group(2))) {
                name = m.group(2);
            }
        }
        return !name.isEmpty() && Character.isUpperCase(name.charAt(0));
    }

    private static void face() {
        Set<String> face = new TreeSet<>();
        Set<String> hidden = new HashSet<>();
        for (Method m : HotWeek.class.getDeclaredMethods()) {
            if (Modifier.isPublic(m.getModifiers())) {
                face.add(m.getName() + "/" + m.getParameterCount());
            } else {
                hidden.add(m.getName());
                CHECK.due("private is " + m, Modifier.isPrivate(m.getModifiers()) ? 1 : 0, 1);
            }
        }
        Set<String> want = new TreeSet<>(List.of("write/2", "erase/0", "fault/0", "week/0", "room/2", "door/2",
                "out/1", "warm/3", "night/1", "above/2", "costs/1", "clock/1", "work/4", "works/2", "read/3",
                "learnt/2", "flat/3", "ring/1", "street/5", "count/1"));
        CHECK.due("the face is " + face, face.equals(want) ? 1 : 0, 1);
        for (String one : want) {
            String name = one.substring(0, one.indexOf('/'));
            CHECK.due("no private method bears the name " + name, hidden.contains(name) ? 1 : 0, 0);
        }
        int constants = 0;
        for (Field f : HotWeek.class.getDeclaredFields()) {
            boolean isPublic = Modifier.isPublic(f.getModifiers());
            constants += isPublic ? 1 : 0;
            CHECK.due("private or public is " + f, isPublic || Modifier.isPrivate(f.getModifiers()) ? 1 : 0, 1);
        }
        CHECK.due("public constants", constants, 5);
        Constructor<?>[] made = HotWeek.class.getConstructors();
        CHECK.due("public constructors", made.length, 1);
        CHECK.due("final", Modifier.isFinal(HotWeek.class.getModifiers()) ? 1 : 0, 1);
    }

    private static void classes() {
        Class<?>[] inside = HotWeek.class.getDeclaredClasses();
        CHECK.due("classes: " + inside.length, inside.length <= 11 ? 1 : 0, 1);
        for (Class<?> c : inside) {
            CHECK.due("static is " + c, Modifier.isStatic(c.getModifiers()) ? 1 : 0, 1);
            CHECK.due("not public is " + c, Modifier.isPublic(c.getModifiers()) ? 0 : 1, 1);
            int fields = 0;
            for (Field f : c.getDeclaredFields()) {
                boolean isStatic = Modifier.isStatic(f.getModifiers());
                fields += isStatic ? 0 : 1;
                CHECK.due("static is final: " + f, !isStatic || Modifier.isFinal(f.getModifiers()) ? 1 : 0, 1);
            }
            CHECK.due("fields of " + c + ": " + fields, fields <= 20 ? 1 : 0, 1);
            for (Method m : c.getDeclaredMethods()) {
                CHECK.due("parameters of " + m, m.getParameterCount() <= 7 ? 1 : 0, 1);
            }
        }
    }

    /** A method ends with the first brace that stands as far in as its own first line. */
    private static void methods(String source) {
        String[] lines = source.split("\n");
        for (int i = 0; i < lines.length; i++) {
            if (!lines[i].matches(" +[\\w\\[\\] ]*\\w+\\(.*") || lines[i].matches(" +(if|for|while|switch|return) ?.*")
                    || lines[i].endsWith(";")) {
                continue;
            }
            String end = lines[i].replaceAll("\\S.*", "") + "}";
            int n = 1;
            while (i + n < lines.length && !lines[i + n].equals(end)) {
                n++;
            }
            CHECK.due("lines of" + lines[i] + ": " + n, n < 60 ? 1 : 0, 1);
        }
    }
}
