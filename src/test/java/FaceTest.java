import java.lang.reflect.Field;
import java.lang.reflect.Method;
import java.lang.reflect.Modifier;
import java.nio.file.Files;
import java.nio.file.Path;
import java.util.ArrayList;
import java.util.Arrays;
import java.util.List;
import java.util.TreeSet;
import java.util.regex.Matcher;
import java.util.regex.Pattern;

/** The face is the document's, no more and no less, and the source keeps to the rules that can be read off it. */
public final class FaceTest {
    private static final Path DOCUMENT = Path.of("../shared/DOC.md");
    private static final Path SOURCE = Path.of("src/main/java/AvoidanceLab.java");
    private static final int LONGEST_METHOD = 60;
    private static final int WIDEST_METHOD = 7;
    private static final int MOST_CLASSES = 12;
    private static final int MOST_FIELDS = 20;

    private static int wrong = 0;

    private static void check(boolean holds, String what) {
        if (!holds) {
            wrong++;
            System.out.println(what);
        }
    }

    public static void main(String[] args) throws Exception {
        String source = Files.readString(SOURCE);
        checkFace(Files.readString(DOCUMENT));
        checkClasses();
        checkWords(source);
        checkMasks(source);
        checkMethods(source);
        if (wrong > 0) {
            System.exit(1);
        }
    }

    private static void checkFace(String document) {
        TreeSet<String> due = new TreeSet<>();
        Matcher lines = Pattern.compile("(?m)^    public (\\w+) (\\w+)\\((.*?)\\)(?: throws (.*))?;$").matcher(document);
        while (lines.find()) {
            due.add(lines.group(1) + " " + lines.group(2) + "(" + types(lines.group(3)) + ")"
                    + sorted(lines.group(4) == null ? "" : lines.group(4)));
        }
        TreeSet<String> got = new TreeSet<>();
        TreeSet<String> hidden = new TreeSet<>();
        for (Method method : AvoidanceLab.class.getDeclaredMethods()) {
            if (Modifier.isPublic(method.getModifiers())) {
                got.add(described(method));
                check(!Modifier.isStatic(method.getModifiers()), method + " is static");
            } else {
                check(Modifier.isPrivate(method.getModifiers()), method + " is neither public nor private");
                hidden.add(method.getName());
            }
        }
        check(due.size() == 39, "the document's face was read as " + due);
        check(got.equals(due), "the face is " + got + ", due is " + due);
        for (String each : due) {
            String name = each.substring(each.indexOf(' ') + 1, each.indexOf('('));
            check(!hidden.contains(name), name + " is the name of a private method too");
        }
        check(Modifier.isFinal(AvoidanceLab.class.getModifiers()), "the class is not final");
        check(AvoidanceLab.class.getDeclaredConstructors().length == 1, "there is more than one constructor");
        Arrays.stream(AvoidanceLab.class.getDeclaredFields())
                .forEach(field -> check(Modifier.isPrivate(field.getModifiers()), field + " is not private"));
    }

    /** Rules 1, 5 and 11: what the classes inside may have. */
    private static void checkClasses() {
        TreeSet<String> face = new TreeSet<>();
        for (Method method : AvoidanceLab.class.getDeclaredMethods()) {
            if (Modifier.isPublic(method.getModifiers())) {
                face.add(method.getName());
            }
        }
        List<Class<?>> classes = new ArrayList<>(Arrays.asList(AvoidanceLab.class.getDeclaredClasses()));
        for (Class<?> inner : classes) {
            check(Modifier.isPrivate(inner.getModifiers()) && Modifier.isStatic(inner.getModifiers()),
                    inner + " is not private and static");
            check(inner.getDeclaredClasses().length == 0, inner + " has classes inside");
            for (Method method : inner.getDeclaredMethods()) {
                check(!face.contains(method.getName()), inner + " has a method of the face's name " + method.getName());
            }
        }
        classes.add(AvoidanceLab.class);
        check(classes.size() <= MOST_CLASSES, "there are " + classes.size() + " classes");
        for (Class<?> each : classes) {
            int fields = 0;
            for (Field field : each.getDeclaredFields()) {
                boolean isStatic = Modifier.isStatic(field.getModifiers());
                check(!isStatic || Modifier.isFinal(field.getModifiers()), field + " is static, but not final");
                fields += isStatic ? 0 : 1;
            }
            check(fields <= MOST_FIELDS, each + " has " + fields + " fields");
        }
    }

    private static String types(String parameters) {
        List<String> types = new ArrayList<>();
        for (String each : parameters.split(",")) {
            types.add(each.trim().split(" ")[0]);
        }
        return String.join(",", types);
    }

    private static String sorted(String names) {
        TreeSet<String> all = new TreeSet<>(Arrays.asList(names.replace(" ", "").split(",")));
        return all.toString();
    }

    private static String described(Method method) {
        List<String> types = new ArrayList<>();
        for (Class<?> each : method.getParameterTypes()) {
            types.add(each.getSimpleName());
        }
        List<String> thrown = new ArrayList<>();
        for (Class<?> each : method.getExceptionTypes()) {
            thrown.add(each.getSimpleName());
        }
        return method.getReturnType().getSimpleName() + " " + method.getName() + "(" + String.join(",", types) + ")"
                + sorted(String.join(",", thrown));
    }

    private static void checkWords(String source) {
        for (String line : source.split("\n")) {
            boolean isImport = line.startsWith("import ");
            check(!isImport || line.equals("import java.util.ArrayList;")
                    || line.equals("import java.util.NoSuchElementException;"), "imported: " + line);
        }
        Pattern refused = Pattern.compile("->|::|\\b(catch|finally|try|synchronized|assert|package|protected|System"
                + "|hashCode|toString|equals|\\w*Exact|Random|Thread|Object|goto|var|yield|sealed|record)\\b");
        Matcher found = refused.matcher(source.replaceAll("(?m)^ *(//|/?\\*).*$", ""));
        while (found.find()) {
            check(false, "the source has " + found.group());
        }
        for (int place = 0; place < source.length(); place++) {
            check(source.charAt(place) < 128, "a sign beyond 127 at " + place);
        }
    }

    /** Rule 10 names masks of int and long alone: each single | and & stands behind or ahead of a shift or a 1. */
    private static void checkMasks(String source) {
        for (String line : source.replaceAll("(?m)^ *(//|/?\\*).*$", "").split("\n")) {
            String rest = line.replaceAll("\\|\\||&&", "").replaceAll("\\|= 1 <<|>> [\\w.\\[\\]]+ & 1\\b|\\) & 1\\b", "");
            check(rest.indexOf('|') < 0 && rest.indexOf('&') < 0 && rest.indexOf('^') < 0, "a mask of booleans? " + line);
        }
    }

    private static void checkMethods(String source) {
        String[] lines = source.split("\n");
        Pattern head = Pattern.compile("^( +)(?!.*\\b(class|new|return|else|if|for|while)\\b).*\\w+\\((.*)\\{$");
        for (int from = 0; from < lines.length; from++) {
            Matcher start = head.matcher(lines[from]);
            if (start.find()) {
                int to = from;
                while (to < lines.length && !lines[to].equals(start.group(1) + "}")) {
                    to++;
                }
                check(to - from <= LONGEST_METHOD, "long: " + lines[from]);
                check(start.group(3).split(",").length <= WIDEST_METHOD, "wide: " + lines[from]);
            }
        }
    }
}
