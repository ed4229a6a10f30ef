import java.lang.reflect.Constructor;
import java.lang.reflect.Field;
import java.lang.reflect.Method;
import java.lang.reflect.Modifier;
import java.nio.file.Files;
import java.nio.file.Path;
import java.util.ArrayList;
import java.util.List;
import java.util.Set;
import java.util.TreeSet;
import java.util.regex.Matcher;
import java.util.regex.Pattern;

/** The face of the class, and those rules of LANGUAGE.md that its text and its members show. */
public final class LanguageTests {
    private static final String[] FACE = {
        "month 2", "leap 3", "week 2", "day 2", "date 2", "months 3", "nth 3", "zone 1", "rule 5", "today 1",
        "known 1", "changes 1", "change 2", "offset 2", "wall 2", "moments 2", "moment 3", "clear 1", "line 4",
        "mix 1", "kind 1", "run 2", "keeps 4", "odds 2", "odd 3", "least 5", "mend 5", "mended 2", "meetings 5",
        "count 1"};
    private static int wrong = 0;

    private static void want(boolean holds, String what) {
        if (!holds) {
            wrong++;
            System.out.println("language: " + what);
        }
    }

    public static void main(String[] args) throws Exception {
        face();
        List<Class<?>> all = new ArrayList<>();
        all.add(OddHours.class);
        for (Class<?> inner : OddHours.class.getDeclaredClasses()) {
            all.add(inner);
            want(Modifier.isStatic(inner.getModifiers()), "rule 2: " + inner + " is not static");
            want(!Modifier.isPublic(inner.getModifiers()), "rule 1: " + inner + " is public");
        }
        want(all.size() <= 12, "rule 11: classes");
        for (Class<?> one : all) {
            members(one);
        }
        text(Files.readString(Path.of("src/main/java/OddHours.java")));
        System.out.println("language: " + (wrong == 0 ? "as the rules say" : wrong + " wrong"));
        if (wrong != 0) {
            System.exit(1);
        }
    }

    private static Set<String> publicNames() {
        Set<String> names = new TreeSet<>();
        for (String one : FACE) {
            names.add(one.substring(0, one.indexOf(' ')));
        }
        return names;
    }

    private static void face() {
        Set<String> due = new TreeSet<>(List.of(FACE));
        Set<String> names = publicNames();
        Set<String> got = new TreeSet<>();
        for (Method m : OddHours.class.getDeclaredMethods()) {
            if (Modifier.isPublic(m.getModifiers())) {
                want(m.getReturnType() == int.class, "rule 1: " + m + " does not answer an int");
                got.add(m.getName() + " " + m.getParameterCount());
            } else {
                want(Modifier.isPrivate(m.getModifiers()), "rule 1: " + m + " can be seen");
                want(!names.contains(m.getName()), "rule 1: " + m + " bears a public name");
            }
        }
        want(got.equals(due), "rule 1: the public methods are " + got);
        Constructor<?>[] made = OddHours.class.getDeclaredConstructors();
        want(made.length == 1 && made[0].getParameterCount() == 0 && Modifier.isPublic(made[0].getModifiers()),
            "rule 1: constructors");
        int constants = 0;
        for (Field f : OddHours.class.getDeclaredFields()) {
            constants += Modifier.isPublic(f.getModifiers()) ? 1 : 0;
            want(Modifier.isPublic(f.getModifiers()) || Modifier.isPrivate(f.getModifiers()), "rule 1: " + f);
        }
        want(constants == 6, "rule 1: constants");
        want(Modifier.isFinal(OddHours.class.getModifiers()), "rule 1: the class is final");
    }

    private static void members(Class<?> one) {
        int fields = 0;
        for (Field f : one.getDeclaredFields()) {
            boolean isStatic = Modifier.isStatic(f.getModifiers());
            fields += isStatic ? 0 : 1;
            want(!isStatic || Modifier.isFinal(f.getModifiers()), "rule 5: " + f);
            want(!isStatic || f.getType() == int.class || f.getType() == int[].class, "rule 5: " + f);
        }
        want(fields <= 20, "rule 11: fields of " + one);
        for (Method m : one.getDeclaredMethods()) {
            boolean isInside = one != OddHours.class;
            want(!isInside || !publicNames().contains(m.getName()), "rule 1: " + m + " bears a public name");
            want(m.getParameterCount() <= 7, "rule 11: " + m);
            want(!Set.of("equals", "hashCode", "toString").contains(m.getName()), "rule 6: " + m);
        }
    }

    private static void text(String source) {
        String code = source.replaceAll("(?s)/\\*.*?\\*/", " ").replaceAll("//[^\n]*", "");
        String[] words = {"throw", "throws", "try", "catch", "finally", "synchronized", "assert", "import", "package",
            "Object", "System", "Thread", "double", "float", "instanceof", "protected", "volatile", "native", "var"};
        for (String word : words) {
            want(!Pattern.compile("\\b" + word + "\\b").matcher(code).find(), "rules 3, 4, 6: " + word);
        }
        for (String sign : new String[] {"->", "::", "@", "Exact", "\"", "while (true", "for (;;"}) {
            want(!code.contains(sign), "rules 2, 4, 9: " + sign);
        }
        Matcher library = Pattern.compile("\\b(Math|Integer|Long|Arrays|String|List)\\.(\\w+)").matcher(code);
        Set<String> allowed = Set.of("Math.max", "Math.min", "Math.abs", "Math.floorMod", "Long.bitCount");
        while (library.find()) {
            want(allowed.contains(library.group()), "rule 4: " + library.group());
        }
        want(code.chars().allMatch(c -> c < 128), "rule 3: signs");
        lengths(source);
    }

    /** A method begins with a line that ends in ") {" at the indent of a member. */
    private static void lengths(String source) {
        String[] rows = source.split("\n");
        for (int i = 0; i < rows.length; i++) {
            Matcher head = Pattern.compile("^( {4}| {8})[a-zA-Z].*\\) \\{$").matcher(rows[i]);
            if (!head.matches() || rows[i].matches("^ *(if|for|while|switch) .*")) {
                continue;
            }
            int end = i;
            while (end < rows.length && !rows[end].equals(head.group(1) + "}")) {
                end++;
            }
            want(end - i < 60, "rule 11: long method, line " + (i + 1));
        }
    }
}
