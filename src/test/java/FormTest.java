import java.lang.reflect.Constructor;
import java.lang.reflect.Executable;
import java.lang.reflect.Field;
import java.lang.reflect.Method;
import java.lang.reflect.Modifier;
import java.nio.file.Files;
import java.nio.file.Path;
import java.util.ArrayList;
import java.util.Arrays;
import java.util.HashSet;
import java.util.List;
import java.util.Set;
import java.util.TreeSet;
import java.util.regex.Matcher;
import java.util.regex.Pattern;

/** The face of the document, and what of the rules of LANGUAGE.md can be seen from outside. */
public final class FormTest {
    private static final String DOCUMENT = "../shared/DOC.md";
    private static final String SOURCE = "src/main/java/Ramseyward.java";
    private static final String[] NOT_ALLOWED = {
        "\\btry\\b", "\\bcatch\\b", "\\bfinally\\b", "\\bassert\\b", "\\bsynchronized\\b", "->", "::", "@",
        "\\bMath\\.\\w+Exact", "\\bSystem\\.(?!arraycopy)", "\\bimport (?!java\\.util\\.(Arrays|NoSuchElementException);)",
        "\\bStrictMath\\b", "\\bThread\\b", "\\bRandom\\b", "\\bgoto\\b", "\\bthis\\)"};

    public static void main(String[] args) throws Exception {
        checkFace();
        List<Class<?>> all = new ArrayList<>(List.of(Ramseyward.class.getDeclaredClasses()));
        all.add(Ramseyward.class);
        Check.same("at most twelve classes", all.size() <= 12, true);
        for (Class<?> one : all) {
            checkClass(one);
        }
        checkSource();
        Check.end("FormTest");
    }

    private static String textOf(Executable call) {
        StringBuilder text = new StringBuilder();
        if (call instanceof Method) {
            text.append(((Method) call).getReturnType()).append(' ');
        }
        text.append(call.getName()).append(Arrays.toString(call.getParameterTypes()));
        return text.append(Arrays.toString(call.getExceptionTypes())).toString();
    }

    private static void checkFace() throws Exception {
        Set<String> face = new TreeSet<>();
        for (Constructor<?> one : Ramseyward.class.getDeclaredConstructors()) {
            face.add(textOf(one));
            Check.same("the constructor is public", Modifier.isPublic(one.getModifiers()), true);
        }
        Set<String> names = new HashSet<>();
        for (Method one : Ramseyward.class.getDeclaredMethods()) {
            if (Modifier.isPublic(one.getModifiers())) {
                face.add(textOf(one));
                names.add(one.getName());
            }
        }
        for (Class<?> one : Ramseyward.class.getDeclaredClasses()) {
            for (Method inner : one.getDeclaredMethods()) {
                Check.same(inner + " bears a name of the face", names.contains(inner.getName()), false);
            }
        }
        for (Method one : Ramseyward.class.getDeclaredMethods()) {
            boolean isPublic = Modifier.isPublic(one.getModifiers());
            Check.same(one + " is public or private", isPublic || Modifier.isPrivate(one.getModifiers()), true);
            Check.same(one + " has a name of its own", isPublic || !names.contains(one.getName()), true);
        }
        Check.same("a constructor and 43 methods", face.size(), 44);
        Check.same("the face", face, faceOfDocument());
    }

    private static Set<String> faceOfDocument() throws Exception {
        String document = Files.readString(Path.of(DOCUMENT));
        String code = document.substring(document.indexOf("```java"), document.indexOf("```", document.indexOf("```java") + 3));
        Set<String> face = new TreeSet<>();
        Matcher line = Pattern.compile("    public (?:(\\w+) )?(\\w+)\\((.*?)\\)(?: throws (.*?))?;").matcher(code);
        while (line.find()) {
            List<String> types = new ArrayList<>();
            for (String parameter : line.group(3).isEmpty() ? new String[0] : line.group(3).split(", ")) {
                types.add(parameter.split(" ")[0]);
            }
            List<String> thrown = new ArrayList<>();
            for (String name : line.group(4) == null ? new String[0] : line.group(4).split(", ")) {
                String in = name.equals("NoSuchElementException") ? "java.util." : "java.lang.";
                thrown.add("class " + in + name);
            }
            face.add((line.group(1) == null ? "" : line.group(1) + " ") + line.group(2) + types + thrown);
        }
        return face;
    }

    private static void checkClass(Class<?> one) {
        boolean isOuter = one == Ramseyward.class;
        int modifiers = one.getModifiers();
        Check.same(one + " is final", Modifier.isFinal(modifiers), true);
        Check.same(one + " is public or else static", isOuter ? Modifier.isPublic(modifiers)
            : Modifier.isStatic(modifiers) && !Modifier.isPublic(modifiers) && !Modifier.isProtected(modifiers), true);
        int fields = 0;
        for (Field field : one.getDeclaredFields()) {
            int kind = field.getModifiers();
            if (Modifier.isStatic(kind)) {
                Check.same(field + " is final", Modifier.isFinal(kind), true);
            } else {
                fields++;
            }
            Check.same(field + " is private outside", !isOuter || Modifier.isPrivate(kind), true);
        }
        Check.same(one + " has at most 20 fields", fields <= 20, true);
        for (Method method : one.getDeclaredMethods()) {
            Check.same(method + " takes at most seven", method.getParameterCount() <= 7, true);
        }
    }

    private static void checkSource() throws Exception {
        String source = Files.readString(Path.of(SOURCE));
        String code = source.replaceAll("(?s)/\\*.*?\\*/", "").replaceAll("//[^\n]*", "");
        for (String wrong : NOT_ALLOWED) {
            Matcher found = Pattern.compile(wrong).matcher(code);
            Check.same(wrong + " in the source", found.find(), false);
        }
        for (char sign : source.toCharArray()) {
            if (sign > 126) {
                Check.same("a sign of the source", (int) sign, 126);
            }
        }
        Check.same("no package", code.contains("package "), false);
    }
}
