import java.lang.reflect.InvocationTargetException;
import java.lang.reflect.Method;
import java.util.Arrays;
import java.util.Comparator;

/** What the tests share: the runner, the looks at answers, and short ways to enter things. */
final class Check {
    static final Class<?> INDEX = IndexOutOfBoundsException.class;
    static final Class<?> ARGUMENT = IllegalArgumentException.class;
    static final Class<?> STATE = IllegalStateException.class;
    static final int ANY = DialectAtlas.ANY;
    static final int END = DialectAtlas.END;
    static final int LOST = DialectAtlas.LOST;
    static final int NONE = DialectAtlas.NONE;
    /** The form of eight sounds 7. */
    static final int LONGEST = 43046720;

    /** Far numbers, among them such as a byte, a short, a mask or a shift would wrap round. */
    private static final int[] FAR_OUT = {Integer.MIN_VALUE, Integer.MIN_VALUE + 1, -65536, -256, -64,
        -32, -8, -2, -1, 16, 32, 64, 256, 65536, 1 << 24, Integer.MAX_VALUE - 1, Integer.MAX_VALUE};

    private static String test = "";
    private static int wrong = 0;

    interface Call {
        int answer();
    }

    interface CallOf {
        int answer(int number);
    }

    private Check() {
    }

    // ---- the runner

    /** Runs every test that the class marks, and ends with exit code 1 if an answer is not as due. */
    static void runAll(Class<?> tests) {
        Method[] methods = tests.getDeclaredMethods();
        Arrays.sort(methods, Comparator.comparing(Method::getName));
        int ran = 0;
        for (Method method : methods) {
            Holds holds = method.getAnnotation(Holds.class);
            if (holds != null) {
                test = tellTest(method, holds);
                runOne(method);
                ran++;
            }
        }
        System.out.println(tests.getName() + ": " + ran + " tests, " + wrong + " answers not as due");
        if (wrong != 0 || ran == 0) {
            System.exit(1);
        }
    }

    private static String tellTest(Method method, Holds holds) {
        return tellPart(holds.of()) + ", " + method.getName() + ", \"" + holds.says() + "\"";
    }

    private static String tellPart(int part) {
        if (part == Holds.WHAT_IT_IS) {
            return "What it is";
        }
        return part == Holds.TERMS ? "Terms" : "Promise " + part;
    }

    private static void runOne(Method method) {
        try {
            method.invoke(null);
        } catch (InvocationTargetException thrown) {
            report("a call", "threw " + thrown.getCause(), "an answer");
        } catch (IllegalAccessException thrown) {
            report("the test", "cannot be called", "a method that can");
        }
    }

    private static void report(String what, String got, String want) {
        wrong++;
        System.out.println(test + ":\n    " + what + " " + got + ", due is " + want);
    }

    // ---- looks at answers

    static void due(String what, Object got, Object want) {
        if (!got.equals(want)) {
            report(what, "answered " + got, want.toString());
        }
    }

    static void refuses(String what, Class<?> want, Call call) {
        Class<?> got = null;
        String thrower = "DialectAtlas";
        try {
            call.answer();
        } catch (RuntimeException thrown) {
            got = thrown.getClass();
            StackTraceElement[] trace = thrown.getStackTrace();
            thrower = trace.length == 0 ? "the machine" : trace[0].getClassName();
        }
        // An exception of the library, even of the due class, is not the atlas's own word.
        if (got != want || !thrower.equals("DialectAtlas")) {
            report(what, "threw " + got + " in " + thrower, want.toString());
        }
    }

    /** Looks that the call refuses the numbers right below and above the range, and far ones. */
    static void refusesOutside(int least, int most, Class<?> want, CallOf call) {
        refuses("the call with " + (least - 1), want, () -> call.answer(least - 1));
        refuses("the call with " + (most + 1), want, () -> call.answer(most + 1));
        for (int far : FAR_OUT) {
            if (far < least || far > most) {
                refuses("the call with " + far, want, () -> call.answer(far));
            }
        }
    }

    // ---- short ways

    static int number(int... sounds) {
        int number = 0;
        for (int sound : sounds) {
            number = number * 9 + sound + 1;
        }
        return number;
    }

    static int draft(DialectAtlas atlas, int... sounds) {
        int length = 0;
        for (int sound : sounds) {
            length = atlas.sound(sound);
        }
        return length;
    }

    static int enter(DialectAtlas atlas, int informant, int place, int word, int... sounds) {
        return enterIn(100, atlas, informant, place, word, sounds);
    }

    static int enterIn(int year, DialectAtlas atlas, int informant, int place, int word, int... sounds) {
        draft(atlas, sounds);
        return atlas.interview(informant, place, year, word);
    }

    static int root(DialectAtlas atlas, int word, int... sounds) {
        draft(atlas, sounds);
        return atlas.setRoot(word);
    }

    /** An atlas with so many interviews, the one with the number i of the informant i % 8. */
    static DialectAtlas atlasWith(int interviews) {
        DialectAtlas atlas = new DialectAtlas();
        for (int i = 0; i < interviews; i++) {
            enter(atlas, i % 8, i % 10, i % 4, i % 8, i / 8);
        }
        return atlas;
    }

    /** The form of the interview with the number i in such an atlas. */
    static int formOf(int interview) {
        return number(interview % 8, interview / 8);
    }

    /** A rule that goes at all places in all years. */
    static int everywhere(DialectAtlas atlas, int sound, int to, int behind) {
        return atlas.rule(sound, to, behind, 0, 9, 0);
    }

    /** What becomes of a form by one rule. */
    static int applied(int sound, int to, int behind, int... sounds) {
        DialectAtlas atlas = new DialectAtlas();
        root(atlas, 0, sounds);
        everywhere(atlas, sound, to, behind);
        return atlas.expected(0, 0, 0);
    }

    /** How far the told form is from the root, without any rules. */
    static int farFrom(int[] root, int... told) {
        DialectAtlas atlas = new DialectAtlas();
        root(atlas, 0, root);
        return atlas.far(enter(atlas, 0, 0, 0, told));
    }

    static int[] form(int... sounds) {
        return sounds;
    }

    static void dueLines(String what, DialectAtlas atlas, int word, int want) {
        due("lines, " + what, atlas.lines(word), want);
        due("linesByForms, " + what, atlas.linesByForms(word), want);
    }
}
