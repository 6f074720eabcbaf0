import java.lang.reflect.Constructor;
import java.lang.reflect.Field;
import java.lang.reflect.Method;
import java.lang.reflect.Modifier;
import java.nio.file.Files;
import java.nio.file.Path;
import java.util.ArrayList;
import java.util.List;
import java.util.Set;
import java.util.TreeSet;
import java.util.regex.Matcher;
import java.util.regex.Pattern;

/** The face of the class against the document's, and what of LANGUAGE.md can be seen in class and text. */
public final class RulesTest {
    private static final Path PROGRAM = Path.of("src/main/java/PolytopeBench.java");
    private static final Path DOCUMENT = Path.of("../shared/DOC.md");
    private static final Set<String> LIBRARY = Set.of("Math.min", "Math.max", "Math.abs", "Math.floorDiv",
            "Long.compare", "Long.bitCount", "System.arraycopy");
    private static int wrong;

    public static void main(String[] args) throws Exception {
        Set<String> names = checkFace();
        checkMembers(PolytopeBench.class, names);
        for (Class<?> inside : PolytopeBench.class.getDeclaredClasses()) {
            due(Modifier.isPrivate(inside.getModifiers()) && Modifier.isStatic(inside.getModifiers()),
                    inside + " is not private and static");
            checkMembers(inside, names);
        }
        List<String> lines = new ArrayList<>();
        for (String line : Files.readAllLines(PROGRAM)) {
            lines.add(line.replaceAll("\"[^\"]*\"", "\"\"").replaceAll("//.*|^\\s*/?\\*.*", ""));
        }
        checkText(lines);
        checkMethods(lines);
        System.out.println("RulesTest: " + (wrong == 0 ? "all rules are kept" : wrong + " rules are broken"));
        if (wrong > 0) {
            System.exit(1);
        }
    }

    private static void due(boolean isGood, String fault) {
        if (!isGood) {
            wrong++;
            System.out.println(fault);
        }
    }

    /** Returns the names of the face. */
    private static Set<String> checkFace() throws Exception {
        Set<String> want = new TreeSet<>();
        Set<String> names = new TreeSet<>();
        Pattern call = Pattern.compile("    public (\\w+) (\\w+)\\(([^)]*)\\)(?: throws ([^;]*))?;");
        for (String line : Files.readAllLines(DOCUMENT)) {
            Matcher at = call.matcher(line);
            if (at.matches()) {
                String types = at.group(3).replaceAll(" \\w+(,|$)", "$1");
                want.add(at.group(1) + " " + at.group(2) + "(" + types + ") " + at.group(4));
                names.add(at.group(2));
            }
        }
        Set<String> got = new TreeSet<>();
        for (Method method : PolytopeBench.class.getDeclaredMethods()) {
            if (Modifier.isPublic(method.getModifiers())) {
                due(!Modifier.isStatic(method.getModifiers()), method + " is static");
                got.add(method.getReturnType() + " " + method.getName() + "(" + list(method.getParameterTypes()) + ") "
                        + (method.getExceptionTypes().length == 0 ? null : list(method.getExceptionTypes())));
            }
        }
        due(want.size() == 34, "the document's face has " + want.size() + " methods");
        due(want.equals(got), "the face differs:\n" + want + "\n" + got);
        Constructor<?>[] made = PolytopeBench.class.getDeclaredConstructors();
        due(made.length == 1 && Modifier.isPublic(made[0].getModifiers()) && made[0].getParameterCount() == 0,
                "the constructor is another one");
        due(Modifier.isFinal(PolytopeBench.class.getModifiers()), "the class is not final");
        return names;
    }

    private static String list(Class<?>[] types) {
        List<String> names = new ArrayList<>();
        for (Class<?> type : types) {
            names.add(type.getSimpleName());
        }
        return String.join(", ", names);
    }

    private static void checkMembers(Class<?> of, Set<String> names) {
        int fields = 0;
        for (Field field : of.getDeclaredFields()) {
            int modifiers = field.getModifiers();
            due(!Modifier.isStatic(modifiers) || Modifier.isFinal(modifiers), field + " is static, but not final");
            due(of != PolytopeBench.class || Modifier.isPrivate(modifiers), field + " is not private");
            fields += Modifier.isStatic(modifiers) ? 0 : 1;
        }
        due(fields <= 20, of + " has too many fields");
        for (Method method : of.getDeclaredMethods()) {
            boolean isOfFace = of == PolytopeBench.class && Modifier.isPublic(method.getModifiers());
            due(isOfFace || !names.contains(method.getName()), method + " has a name of the face");
            due(of != PolytopeBench.class || isOfFace || Modifier.isPrivate(method.getModifiers()),
                    method + " is not private");
            due(method.getParameterCount() <= 7, method + " has too many parameters");
            due(!method.isSynthetic(), method + " is not written");
        }
    }

    private static void checkText(List<String> lines) {
        Pattern library = Pattern.compile("\\b(Math|Long|Integer|System|Arrays|String|StringBuilder)\\.\\w+");
        Pattern word = Pattern.compile("->|::|\\b(synchronized|assert|finally|try|catch|package|record|var)\\b");
        Pattern row = Pattern.compile("        (final|private final) \\w+(\\[\\])? \\w+ = new .*|"
                + "    private (final )?\\w+(\\[\\])? \\w+ = new .*|            shelves\\[i\\] = new Body\\(\\);");
        for (String line : lines) {
            due(!line.startsWith("import") || line.equals("import java.util.NoSuchElementException;"), line);
            Matcher at = library.matcher(line);
            while (at.find()) {
                due(LIBRARY.contains(at.group()), "outside the library: " + line);
            }
            due(!word.matcher(line).find(), "outside the language: " + line);
            // Objects are made in constructors and for exceptions alone.
            due(!line.contains("new ") || line.contains("throw new ") || row.matcher(line).matches(), "new: " + line);
        }
    }

    private static void checkMethods(List<String> lines) {
        int start = -1;
        int indent = 0;
        for (int i = 0; i < lines.size(); i++) {
            String line = lines.get(i);
            int in = line.length() - line.stripLeading().length();
            boolean isHead = (in == 4 || in == 8) && line.contains("(") && line.matches(".*[\\w>\\]] \\w+\\(.*")
                    && !line.matches(" *(return|throw|if|for|while|else|due)\\b.*") && !line.contains(" = ")
                    && !line.endsWith(";");
            if (start < 0 && isHead) {
                start = i;
                indent = in;
            } else if (start >= 0 && line.equals(" ".repeat(indent) + "}")) {
                due(i - start < 60, "a method has " + (i - start) + " lines: " + lines.get(start));
                start = -1;
            }
        }
    }
}
