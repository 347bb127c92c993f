import java.io.IOException;
import java.lang.reflect.Field;
import java.lang.reflect.Member;
import java.lang.reflect.Method;
import java.lang.reflect.Modifier;
import java.nio.file.Files;
import java.nio.file.Path;
import java.util.ArrayList;
import java.util.Arrays;
import java.util.List;
import java.util.Set;
import java.util.TreeSet;
import java.util.regex.Matcher;
import java.util.regex.Pattern;

/** The public face, and those rules of LANGUAGE.md that the source's words or the class itself show. */
public final class FaceTests {
    private static final String SOURCE = "src/main/java/DialectAtlas.java";
    private static int wrong = 0;

    public static void main(String[] args) throws IOException {
        testFace();
        testConstants();
        testClasses();
        testSource(Files.readString(Path.of(SOURCE)));
        System.out.println(wrong == 0 ? "the face is as due" : wrong + " answers are not as due");
        if (wrong != 0) {
            System.exit(1);
        }
    }

    private static void due(String what, Object got, Object want) {
        if (!got.equals(want)) {
            wrong++;
            System.out.println(what + ": " + got + ", due is " + want);
        }
    }

    private static void testFace() {
        Class<DialectAtlas> face = DialectAtlas.class;
        due("modifiers", Modifier.toString(face.getModifiers()), "public final");
        List<Member> members = new ArrayList<>();
        members.addAll(Arrays.asList(face.getDeclaredFields()));
        members.addAll(Arrays.asList(face.getDeclaredMethods()));
        members.addAll(Arrays.asList(face.getDeclaredConstructors()));
        Set<String> open = new TreeSet<>();
        for (Member member : members) {
            if (!Modifier.isPrivate(member.getModifiers())) {
                open.add(member.toString().replace("java.lang.", "").replace("DialectAtlas.", ""));
            }
        }
        due("open members", open, new TreeSet<>(List.of(
            "public DialectAtlas()",
            "public static final int NONE",
            "public static final int LOST",
            "public static final int END",
            "public static final int ANY",
            "public int sound(int) throws IndexOutOfBoundsException,IllegalStateException",
            "public int interview(int,int,int,int) throws IndexOutOfBoundsException,"
                + "IllegalArgumentException,IllegalStateException",
            "public int setRoot(int) throws IndexOutOfBoundsException,IllegalStateException",
            "public int form(int) throws IndexOutOfBoundsException",
            "public int rule(int,int,int,int,int,int) throws IndexOutOfBoundsException,"
                + "IllegalArgumentException,IllegalStateException",
            "public int rest(int,int) throws IndexOutOfBoundsException,IllegalStateException",
            "public boolean stands(int) throws IndexOutOfBoundsException",
            "public int expected(int,int,int) throws IndexOutOfBoundsException,"
                + "IllegalArgumentException",
            "public int far(int) throws IndexOutOfBoundsException",
            "public int formAt(int,int) throws IndexOutOfBoundsException",
            "public int lines(int) throws IndexOutOfBoundsException",
            "public int linesByForms(int) throws IndexOutOfBoundsException",
            "public int forget(int) throws IndexOutOfBoundsException",
            "public int copy(int) throws IndexOutOfBoundsException",
            "public int tell(int) throws IndexOutOfBoundsException",
            "public int owed(int) throws IndexOutOfBoundsException",
            "public int quote(int) throws IndexOutOfBoundsException,IllegalStateException",
            "public int quoted(int) throws IndexOutOfBoundsException")));
    }

    private static void testConstants() {
        due("NONE", DialectAtlas.NONE, -1);
        due("LOST", DialectAtlas.LOST, -1);
        due("END", DialectAtlas.END, 8);
        due("ANY", DialectAtlas.ANY, 9);
    }

    private static void testClasses() {
        List<Class<?>> classes = new ArrayList<>(List.of(DialectAtlas.class));
        classes.addAll(Arrays.asList(DialectAtlas.class.getDeclaredClasses()));
        due("at most 12 classes", classes.size() <= 12, true);
        for (Class<?> one : classes) {
            int held = 0;
            for (Field field : one.getDeclaredFields()) {
                boolean shared = Modifier.isStatic(field.getModifiers());
                due(field + " is final, if static", !shared || Modifier.isFinal(field.getModifiers()), true);
                held += shared ? 0 : 1;
            }
            due(one + " holds at most 20 fields", held <= 20, true);
            for (Method method : one.getDeclaredMethods()) {
                due(method + " takes at most 7", method.getParameterCount() <= 7, true);
                due(method + " is private, or of the face", isPrivateOrOfTheFace(method), true);
            }
            due(one + " is the face, or closed and static", one == DialectAtlas.class || isClosed(one), true);
        }
    }

    private static boolean isClosed(Class<?> inner) {
        int open = Modifier.PUBLIC | Modifier.PROTECTED;
        return (inner.getModifiers() & open) == 0 && Modifier.isStatic(inner.getModifiers());
    }

    /** A private method may not bear the name of a public one. */
    private static boolean isPrivateOrOfTheFace(Method method) {
        if (!Modifier.isPrivate(method.getModifiers())) {
            return method.getDeclaringClass() == DialectAtlas.class;
        }
        return Arrays.stream(DialectAtlas.class.getMethods())
            .noneMatch(open -> open.getName().equals(method.getName()));
    }

    private static void testSource(String source) {
        due("signs beyond 127", source.chars().anyMatch(sign -> sign > 127), false);
        Set<String> imports = new TreeSet<>();
        Matcher line = Pattern.compile("(?m)^import (.*);$").matcher(source);
        while (line.find()) {
            imports.add(line.group(1));
        }
        due("imports", imports, new TreeSet<>(List.of("java.util.ArrayList", "java.util.Arrays")));
        String[] ruledOut = {"->", "::", "\\btry\\b", "\\bcatch\\b", "\\bfinally\\b", "\\bassert\\b",
            "\\bsynchronized\\b", "\\b[a-z]+Exact\\b", "\\bpackage\\b", "\" \\+", "\\+ \""};
        for (String word : ruledOut) {
            due("source holds " + word, Pattern.compile(word).matcher(source).find(), false);
        }
    }
}
