import java.lang.reflect.Constructor;
import java.lang.reflect.Field;
import java.lang.reflect.Method;
import java.lang.reflect.Modifier;
import java.nio.file.Files;
import java.nio.file.Path;
import java.util.Set;
import java.util.TreeSet;
import java.util.regex.Matcher;
import java.util.regex.Pattern;

/** Rules of ../shared/LANGUAGE.md that can be looked up in the source and in the compiled class. */
public final class LanguageTest {
    private static final String[] FACE = {
        "about(int)", "back(int)", "best(int,int,int)", "blind()", "did(int,int)", "end(int)", "estimate(int,int)",
        "fairest()", "fault(int)", "feed(int,int,int,int,int)", "first(int,int)", "game(int)", "goes(int,int,int)",
        "hears(int,int)", "image(int)", "kind(int,int)", "known(boolean,int)", "land()", "line(boolean)",
        "luck(int,int)", "owed(int)", "person(int,int)", "score(int)", "seed(int)", "smelt(int)", "sum(int,int)",
        "worth(int)", "year(boolean,int,int,int)"
    };
    private static final int MOST_CLASSES = 12;
    private static final int MOST_FIELDS = 20;
    private static final int MOST_PARAMETERS = 7;
    private static final int MOST_LINES = 60;
    private static int wrong = 0;

    private static void holds(boolean well, String rule) {
        if (!well) {
            wrong++;
            System.out.println("broken: " + rule);
        }
    }

    public static void main(String[] args) throws Exception {
        String source = Files.readString(Path.of("src/main/java/LotHouse.java"));
        face();
        classes();
        words(withoutCommentsAndTexts(source));
        methodLengths(source);
        System.out.println(wrong == 0 ? "all rules hold" : wrong + " rules are broken");
        if (wrong != 0) {
            System.exit(1);
        }
    }

    private static void face() {
        Set<String> due = new TreeSet<>(Set.of(FACE));
        Set<String> got = new TreeSet<>();
        Set<String> names = new TreeSet<>();
        for (Method m : LotHouse.class.getDeclaredMethods()) {
            if (!Modifier.isPrivate(m.getModifiers())) {
                String all = m.toString();
                got.add(m.getName() + all.substring(all.indexOf('(')));
                names.add(m.getName());
                holds(m.getReturnType() == int.class && Modifier.isPublic(m.getModifiers()), "1: " + m);
            }
        }
        holds(due.equals(got), "1: the face is " + got);
        for (Class<?> c : LotHouse.class.getDeclaredClasses()) {
            for (Method m : c.getDeclaredMethods()) {
                holds(!names.contains(m.getName()), "1: a method inside bears the name of a public one: " + m);
            }
        }
        for (Method m : LotHouse.class.getDeclaredMethods()) {
            holds(!Modifier.isPrivate(m.getModifiers()) || !names.contains(m.getName()), "1: private " + m);
        }
        for (Field f : LotHouse.class.getDeclaredFields()) {
            holds(Modifier.isPrivate(f.getModifiers()) || f.getName().equals("NONE"), "1: a field " + f);
        }
        Constructor<?>[] made = LotHouse.class.getDeclaredConstructors();
        holds(made.length == 1 && made[0].getParameterCount() == 0 && Modifier.isPublic(made[0].getModifiers()),
            "1: the constructor");
        holds(Modifier.isFinal(LotHouse.class.getModifiers()), "1: final");
    }

    private static void classes() {
        Class<?>[] inside = LotHouse.class.getDeclaredClasses();
        holds(inside.length + 1 <= MOST_CLASSES, "11: classes: " + (inside.length + 1));
        oneClass(LotHouse.class);
        for (Class<?> c : inside) {
            holds(Modifier.isStatic(c.getModifiers()), "2: not static: " + c);
            oneClass(c);
        }
    }

    private static void oneClass(Class<?> c) {
        int fields = 0;
        for (Field f : c.getDeclaredFields()) {
            if (Modifier.isStatic(f.getModifiers())) {
                holds(Modifier.isFinal(f.getModifiers()), "5: " + f);
            } else {
                fields++;
            }
        }
        holds(fields <= MOST_FIELDS, "11: fields of " + c + ": " + fields);
        for (Method m : c.getDeclaredMethods()) {
            holds(m.getParameterCount() <= MOST_PARAMETERS, "11: parameters of " + m);
        }
    }

    private static String withoutCommentsAndTexts(String source) {
        return source.replaceAll("(?s)/\\*.*?\\*/", " ").replaceAll("//[^\n]*", " ").replaceAll("\"[^\"\n]*\"", "\"\"");
    }

    private static void words(String code) {
        Matcher none = Pattern.compile("\\b(throw|throws|try|catch|synchronized|assert|package|native|volatile|"
            + "Object|Map|HashMap|Thread|Random|hashCode|toString|equals|goto|finally)\\b|->|::|\\bstatic \\{|Exact\\(")
            .matcher(code);
        while (none.find()) {
            holds(false, "4 or 6: " + none.group());
        }
        Matcher imports = Pattern.compile("import ([^;]*);").matcher(code);
        while (imports.find()) {
            holds(Set.of("java.util.Arrays", "java.util.ArrayList", "java.util.List").contains(imports.group(1)),
                "4: import " + imports.group(1));
        }
        Matcher library = Pattern.compile("\\b(System|Arrays|Math|Integer|Long)\\.(\\w+)").matcher(code);
        Set<String> listed = Set.of("System.arraycopy", "Arrays.fill", "Arrays.copyOf", "Arrays.copyOfRange",
            "Math.max", "Math.min", "Math.abs", "Math.floorMod", "Math.floorDiv", "Integer.bitCount");
        while (library.find()) {
            holds(listed.contains(library.group()), "4: " + library.group());
        }
        Matcher flags = Pattern.compile("\\bboolean\\[\\] (\\w+)").matcher(code);
        while (flags.find()) {
            holds(!code.contains("Arrays.fill(" + flags.group(1) + ","), "4: Arrays.fill of no numbers: " + flags.group(1));
        }
        holds(code.chars().allMatch(c -> c < 128), "4: signs 1 to 127");
    }

    /** A method starts at a line with a brace behind its parameters and ends at the brace of like indent. */
    private static void methodLengths(String source) {
        String[] lines = source.split("\n");
        for (int i = 0; i < lines.length; i++) {
            Matcher head = Pattern.compile("^( {4}| {8})\\w[^;=]*\\) \\{$").matcher(lines[i]);
            if (head.find()) {
                int end = i;
                while (!lines[end].equals(head.group(1) + "}")) {
                    end++;
                }
                holds(end - i < MOST_LINES, "11: long: " + lines[i].trim());
            }
        }
    }
}
