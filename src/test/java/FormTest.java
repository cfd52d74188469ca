import java.lang.reflect.Array;
import java.lang.reflect.Constructor;
import java.lang.reflect.Executable;
import java.lang.reflect.Field;
import java.lang.reflect.Method;
import java.lang.reflect.Modifier;
import java.nio.file.Files;
import java.nio.file.Path;
import java.util.ArrayList;
import java.util.Arrays;
import java.util.HashSet;
import java.util.List;
import java.util.Set;
import java.util.TreeSet;
import java.util.regex.Matcher;
import java.util.regex.Pattern;

/** The face of the document, and what of the rules of LANGUAGE.md can be seen from outside. */
public final class FormTest {
    private static final String DOCUMENT = "../shared/DOC.md";
    private static final String SOURCE = "src/main/java/Ramseyward.java";
    private static final String[] NOT_ALLOWED = {
        "\\btry\\b", "\\bcatch\\b", "\\bfinally\\b", "\\bassert\\b", "\\bsynchronized\\b", "->", "::", "@",
        "\\bMath\\.\\w+Exact", "\\bSystem\\.(?!arraycopy)", "\\bimport (?!java\\.util\\.(Arrays|NoSuchElementException);)",
        "\\bStrictMath\\b", "\\bThread\\b", "\\bRandom\\b", "\\bgoto\\b", "\\bthis\\)", "\\binstanceof\\b"};
    private static final Pattern LIBRARY = Pattern.compile("System\\.arraycopy|Arrays\\.(fill|copyOf|copyOfRange)"
        + "|(Integer|Long|Math)\\.(compare|max|min|abs|bitCount|floorDiv|floorMod)");
    private static final Set<Class<?>> CONSTANTS = Set.of(int.class, long.class, boolean.class, char.class,
        String.class, int[].class, long[].class, char[].class, byte[].class);
    private static final Set<String> EXCEPTIONS = Set.of("IllegalStateException", "IllegalArgumentException",
        "IndexOutOfBoundsException", "ArithmeticException", "UnsupportedOperationException", "NoSuchElementException",
        "RuntimeException");
    private static final int LONGEST_METHOD = 60;
    /** A run of 512 calls that made an object by each of them would still have room. */
    private static final int MOST_HELD = 7300000 / 512;

    public static void main(String[] args) throws Exception {
        checkFace();
        List<Class<?>> all = new ArrayList<>(List.of(Ramseyward.class.getDeclaredClasses()));
        all.add(Ramseyward.class);
        Check.same("at most twelve classes", all.size() <= 12, true);
        for (Class<?> one : all) {
            checkClass(one);
        }
        String source = Files.readString(Path.of(SOURCE));
        String code = source.replaceAll("(?s)/\\*.*?\\*/", "").replaceAll("//[^\n]*", "");
        checkSource(source, code);
        checkLibrary(code);
        checkMade(code);
        checkMethods(source.split("\n"));
        checkHeld();
        Check.end("FormTest");
    }

    private static String textOf(Executable call) {
        StringBuilder text = new StringBuilder();
        if (call instanceof Method) {
            text.append(((Method) call).getReturnType()).append(' ');
        }
        text.append(call.getName()).append(Arrays.toString(call.getParameterTypes()));
        return text.append(Arrays.toString(call.getExceptionTypes())).toString();
    }

    private static void checkFace() throws Exception {
        Set<String> face = new TreeSet<>();
        for (Constructor<?> one : Ramseyward.class.getDeclaredConstructors()) {
            face.add(textOf(one));
            Check.same("the constructor is public", Modifier.isPublic(one.getModifiers()), true);
        }
        Set<String> names = new HashSet<>();
        for (Method one : Ramseyward.class.getDeclaredMethods()) {
            if (Modifier.isPublic(one.getModifiers())) {
                face.add(textOf(one));
                names.add(one.getName());
            }
        }
        for (Class<?> one : Ramseyward.class.getDeclaredClasses()) {
            for (Method inner : one.getDeclaredMethods()) {
                Check.same(inner + " bears a name of the face", names.contains(inner.getName()), false);
            }
        }
        for (Method one : Ramseyward.class.getDeclaredMethods()) {
            boolean isPublic = Modifier.isPublic(one.getModifiers());
            Check.same(one + " is public or private", isPublic || Modifier.isPrivate(one.getModifiers()), true);
            Check.same(one + " has a name of its own", isPublic || !names.contains(one.getName()), true);
        }
        Check.same("a constructor and 43 methods", face.size(), 44);
        Check.same("the face", face, faceOfDocument());
    }

    private static Set<String> faceOfDocument() throws Exception {
        String document = Files.readString(Path.of(DOCUMENT));
        String code = document.substring(document.indexOf("```java"), document.indexOf("```", document.indexOf("```java") + 3));
        Set<String> face = new TreeSet<>();
        Matcher line = Pattern.compile("    public (?:(\\w+) )?(\\w+)\\((.*?)\\)(?: throws (.*?))?;").matcher(code);
        while (line.find()) {
            List<String> types = new ArrayList<>();
            for (String parameter : line.group(3).isEmpty() ? new String[0] : line.group(3).split(", ")) {
                types.add(parameter.split(" ")[0]);
            }
            List<String> thrown = new ArrayList<>();
            for (String name : line.group(4) == null ? new String[0] : line.group(4).split(", ")) {
                String in = name.equals("NoSuchElementException") ? "java.util." : "java.lang.";
                thrown.add("class " + in + name);
            }
            face.add((line.group(1) == null ? "" : line.group(1) + " ") + line.group(2) + types + thrown);
        }
        return face;
    }

    private static void checkClass(Class<?> one) {
        boolean isOuter = one == Ramseyward.class;
        int modifiers = one.getModifiers();
        Check.same(one + " is final", Modifier.isFinal(modifiers), true);
        Check.same(one + " is public or else static", isOuter ? Modifier.isPublic(modifiers)
            : Modifier.isStatic(modifiers) && !Modifier.isPublic(modifiers) && !Modifier.isProtected(modifiers), true);
        int fields = 0;
        for (Field field : one.getDeclaredFields()) {
            int kind = field.getModifiers();
            if (Modifier.isStatic(kind)) {
                Check.same(field + " is final", Modifier.isFinal(kind), true);
                Check.same(field + " is a constant", CONSTANTS.contains(field.getType()), true);
            } else {
                fields++;
            }
            Check.same(field + " is private outside", !isOuter || Modifier.isPrivate(kind), true);
        }
        Check.same(one + " has at most 20 fields", fields <= 20, true);
        for (Method method : one.getDeclaredMethods()) {
            Check.same(method + " takes at most seven", method.getParameterCount() <= 7, true);
            Check.same(method + " is none of Object's", Set.of("equals", "hashCode", "toString").contains(method.getName()), false);
        }
    }

    private static void checkSource(String source, String code) {
        for (String wrong : NOT_ALLOWED) {
            Matcher found = Pattern.compile(wrong).matcher(code);
            Check.same(wrong + " in the source", found.find(), false);
        }
        for (char sign : source.toCharArray()) {
            if (sign > 126) {
                Check.same("a sign of the source", (int) sign, 126);
            }
        }
        Check.same("no package", code.contains("package "), false);
    }

    // ---- what the code calls and makes ----

    private static void checkLibrary(String code) {
        Set<String> own = new HashSet<>();
        for (Class<?> one : Ramseyward.class.getDeclaredClasses()) {
            own.add(one.getSimpleName());
        }
        Matcher call = Pattern.compile("\\b([A-Z]\\w*)\\.(\\w+)\\(").matcher(code);
        while (call.find()) {
            String name = call.group(1) + "." + call.group(2);
            Check.same(name + " may be called", own.contains(call.group(1)) || LIBRARY.matcher(name).matches(), true);
        }
    }

    /** Calls make nothing but the exceptions that they throw: the rest is made with the object. */
    private static void checkMade(String code) {
        Pattern thrown = Pattern.compile("throw new (\\w+)\\(\"[^\"]*\"\\);");
        Pattern held = Pattern.compile("    (private )?final [\\w\\[\\]]+ \\w+ = new .*;|            wishes\\[hue\\] = new Wish\\(\\);");
        for (String line : code.split("\n")) {
            Matcher made = thrown.matcher(line);
            if (made.find()) {
                Check.same(made.group(1) + " may be thrown", EXCEPTIONS.contains(made.group(1)), true);
            } else if (line.contains("throw ") || line.contains("new ") && !held.matcher(line).find()) {
                Check.same("made beside the object and exceptions", line, "");
            }
        }
    }

    private static void checkMethods(String[] lines) {
        for (int at = 0; at < lines.length; at++) {
            Matcher head = Pattern.compile("( {4}| {8})(?:\\w[\\w\\[\\]]* )*(\\w+)\\(.*").matcher(lines[at]);
            if (!head.matches() || lines[at].endsWith(";")) {
                continue;
            }
            int end = at;
            while (end < lines.length && !lines[end].equals(head.group(1) + "}")) {
                end++;
            }
            Check.same(head.group(2) + " is short", end - at < LONGEST_METHOD, true);
        }
    }

    // ---- what an object holds ----

    private static void checkHeld() throws Exception {
        Ramseyward ward = new Ramseyward();
        int held = heldBy(ward, new HashSet<>());
        Check.same("an object holds little: " + held, held > 0 && held <= MOST_HELD, true);
        ward.wish(0, 'p', 4);
        ward.find(5);
        ward.game('a', 5);
        for (int elements = 0; elements < 40; elements++) {
            ward.set(elements);
        }
        ward.bound('p', 3, 3);
        ward.isTrue();
        ward.best();
        Check.same("an object holds no more behind its calls", heldBy(ward, new HashSet<>()), held);
    }

    /** How many fields and elements an object of the program has, with those of all that it holds. */
    private static int heldBy(Object one, Set<Object> seen) throws Exception {
        if (one == null || !seen.add(one)) {
            return 0;
        }
        int held = 0;
        if (one.getClass().isArray()) {
            for (int at = 0; at < Array.getLength(one); at++) {
                held += 1 + (one instanceof Object[] ? heldBy(Array.get(one, at), seen) : 0);
            }
            return held;
        }
        for (Field field : one.getClass().getDeclaredFields()) {
            if (!Modifier.isStatic(field.getModifiers())) {
                field.setAccessible(true);
                held += 1 + (field.getType().isPrimitive() ? 0 : heldBy(field.get(one), seen));
            }
        }
        return held;
    }
}
