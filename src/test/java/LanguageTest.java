import java.io.IOException;
import java.lang.reflect.Constructor;
import java.lang.reflect.Field;
import java.lang.reflect.Method;
import java.lang.reflect.Modifier;
import java.nio.file.Files;
import java.nio.file.Path;
import java.util.ArrayList;
import java.util.HashSet;
import java.util.List;
import java.util.Set;
import java.util.regex.Matcher;
import java.util.regex.Pattern;

/** What of LANGUAGE.md's rules can be read off the class and its source; FaceTest has the face. */
final class LanguageTest {
    private static final Due DUE = new Due();
    private static final Path SOURCE = Path.of("src", "main", "java", "TriangleRaster.java");

    private static final Set<String> IMPORTS = Set.of("java.util.Arrays", "java.util.ArrayList", "java.util.List",
            "java.util.Iterator", "java.util.NoSuchElementException");
    private static final Set<Class<?>> STATIC_TYPES = Set.of(int.class, long.class, boolean.class, char.class,
            String.class, int[].class, long[].class, char[].class, byte[].class);

    // The document names no exception, so there is nothing to throw or to catch.
    private static final Pattern RULED_OUT = Pattern.compile("->|::|\\bpackage\\b|\\bthrow\\b|\\btry\\b|\\bcatch\\b"
            + "|\\bfinally\\b|\\bsynchronized\\b|\\bassert\\b|\\bnative\\b|\\bdouble\\b|\\bfloat\\b|\\bhashCode\\b"
            + "|\\btoString\\b|\\bequals\\b|\\w+Exact\\b|\\bThread\\b|\\bRandom\\b|\\brandom\\b|\\bstatic \\{");
    private static final Pattern LIBRARY = Pattern.compile("\\b(System|Math|Arrays|Integer|Long)\\.(\\w+)");
    private static final Set<String> LIBRARY_USED = Set.of("Math.abs", "Math.max", "Math.min", "Arrays.fill");
    private static final Pattern HEAD = Pattern.compile(" +(public|private) [^=;]*\\) \\{");

    public static void main(String[] args) throws IOException {
        List<Class<?>> classes = new ArrayList<>();
        addWithin(TriangleRaster.class, classes);
        DUE.same("rule 11: classes, at most 12", classes.size() <= 12, true);
        for (Class<?> type : classes) {
            fields(type);
            parameters(type);
        }
        for (Class<?> type : classes.subList(1, classes.size())) {
            within(type);
        }
        namesOfPrivateMethods(classes);
        List<String> lines = Files.readAllLines(SOURCE);
        words(lines);
        methods(lines);
        DUE.end();
    }

    private static void addWithin(Class<?> type, List<Class<?>> classes) {
        classes.add(type);
        for (Class<?> inner : type.getDeclaredClasses()) {
            addWithin(inner, classes);
        }
    }

    private static void within(Class<?> type) {
        int modifiers = type.getModifiers();
        DUE.same("rule 1: static " + type, Modifier.isStatic(modifiers), true);
        DUE.same("rule 1: public " + type, Modifier.isPublic(modifiers), false);
        DUE.same("rule 1: protected " + type, Modifier.isProtected(modifiers), false);
    }

    private static void namesOfPrivateMethods(List<Class<?>> classes) {
        Set<String> face = new HashSet<>();
        for (Method method : TriangleRaster.class.getMethods()) {
            face.add(method.getName());
        }
        for (Class<?> type : classes) {
            for (Method method : type.getDeclaredMethods()) {
                boolean isOfTheFace = type == TriangleRaster.class && Modifier.isPublic(method.getModifiers());
                DUE.same("rule 1: a public one's name, " + method, !isOfTheFace && face.contains(method.getName()), false);
            }
        }
    }

    private static void fields(Class<?> type) {
        int ofObjects = 0;
        for (Field field : type.getDeclaredFields()) {
            if (Modifier.isStatic(field.getModifiers())) {
                DUE.same("rule 5: final " + field, Modifier.isFinal(field.getModifiers()), true);
                DUE.same("rule 5: type of " + field, STATIC_TYPES.contains(field.getType()), true);
            } else {
                ofObjects++;
            }
        }
        DUE.same("rule 11: fields of " + type + ", at most 20", ofObjects <= 20, true);
    }

    private static void parameters(Class<?> type) {
        for (Method method : type.getDeclaredMethods()) {
            DUE.same("rule 11: parameters of " + method, method.getParameterCount() <= 7, true);
        }
        for (Constructor<?> constructor : type.getDeclaredConstructors()) {
            DUE.same("rule 11: parameters of " + constructor, constructor.getParameterCount() <= 7, true);
        }
    }

    private static void words(List<String> lines) {
        for (String line : lines) {
            String code = code(line);
            DUE.same("rules 2 to 6, 13: " + line, RULED_OUT.matcher(code).find(), false);
            if (code.startsWith("import ")) {
                DUE.same("rule 4: " + line, IMPORTS.contains(code.replace("import ", "").replace(";", "").trim()), true);
            }
            Matcher library = LIBRARY.matcher(code.startsWith("import ") ? "" : code);
            while (library.find()) {
                DUE.same("rule 4: " + line, LIBRARY_USED.contains(library.group()), true);
            }
        }
    }

    /** Methods stay short; what is made is made with the object, so that no call makes anything. */
    private static void methods(List<String> lines) {
        int began = -1;
        String head = "";
        for (int i = 0; i < lines.size(); i++) {
            String line = lines.get(i);
            if (HEAD.matcher(line).matches()) {
                began = i;
                head = line.trim();
            }
            if (began >= 0 && line.matches(" {4,8}}") && indent(line) == indent(lines.get(began))) {
                DUE.same("rule 11: some sixty lines, " + head, i - began < 60, true);
                began = -1;
            }
            boolean makes = Pattern.compile("\\bnew\\b|\\bclone\\b|\\bcopyOf").matcher(code(line)).find();
            boolean inACall = began >= 0 && !head.startsWith("public TriangleRaster(");
            DUE.same("rule 12: made in a call, " + head + " " + line, makes && inACall, false);
        }
    }

    private static int indent(String line) {
        return line.length() - line.stripLeading().length();
    }

    /** A line without its comment. */
    private static String code(String line) {
        String text = line.strip();
        boolean isComment = text.startsWith("*") || text.startsWith("/*");
        return isComment ? "" : line.replaceAll("//.*", "");
    }
}
