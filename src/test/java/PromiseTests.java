/** At least one test for each promise of the document: ordinary inputs, the edges, wrong inputs. */
public final class PromiseTests {
    private static final Class<?> INDEX = IndexOutOfBoundsException.class;
    private static final Class<?> ARGUMENT = IllegalArgumentException.class;
    private static final Class<?> STATE = IllegalStateException.class;
    private static final int ANY = DialectAtlas.ANY;
    private static final int END = DialectAtlas.END;
    private static final int LOST = DialectAtlas.LOST;
    private static final int NONE = DialectAtlas.NONE;
    private static final int[] FAR_OUT = {Integer.MIN_VALUE, -2, 1000, Integer.MAX_VALUE};
    private static final int LONGEST = 43046720;

    private static int wrong = 0;

    private interface Call {
        int answer();
    }

    public static void main(String[] args) {
        testNewObject();
        testSound();
        testInterview();
        testSetRoot();
        testForm();
        testRule();
        testRest();
        testStands();
        testExpectedRange();
        testExpectedAppliesAtOnce();
        testExpectedBehind();
        testExpectedOrder();
        testFar();
        testFormAt();
        testLines();
        testLinesAfterForgetting();
        testForget();
        testForgetFellsRules();
        testCopy();
        testTellAndOwed();
        testQuote();
        testQuoted();
        System.out.println(wrong == 0 ? "all promises hold" : wrong + " answers are not as due");
        if (wrong != 0) {
            System.exit(1);
        }
    }

    // ---- what the tests share

    private static void due(String what, int got, int want) {
        if (got != want) {
            wrong++;
            System.out.println(what + " answered " + got + ", due is " + want);
        }
    }

    private static void dueThrow(String what, Class<?> want, Call call) {
        Class<?> got = null;
        String thrower = "DialectAtlas";
        try {
            call.answer();
        } catch (RuntimeException thrown) {
            got = thrown.getClass();
            thrower = thrown.getStackTrace()[0].getClassName();
        }
        // An exception of the library, even of the due class, is not the atlas's own word.
        if (got != want || !thrower.equals("DialectAtlas")) {
            wrong++;
            System.out.println(what + " threw " + got + " in " + thrower + ", due is " + want);
        }
    }

    private static void draft(DialectAtlas atlas, int... sounds) {
        for (int sound : sounds) {
            atlas.sound(sound);
        }
    }

    private static int number(int... sounds) {
        int number = 0;
        for (int sound : sounds) {
            number = number * 9 + sound + 1;
        }
        return number;
    }

    private static int tell(DialectAtlas atlas, int informant, int place, int word, int... sounds) {
        draft(atlas, sounds);
        return atlas.interview(informant, place, 100, word);
    }

    private static void root(DialectAtlas atlas, int word, int... sounds) {
        draft(atlas, sounds);
        atlas.setRoot(word);
    }

    private static int stands(DialectAtlas atlas, int rule) {
        return atlas.stands(rule) ? 1 : 0;
    }

    // ---- promise 1

    private static void testNewObject() {
        DialectAtlas atlas = new DialectAtlas();
        for (int word = 0; word < 4; word++) {
            due("lines", atlas.lines(word), 0);
            due("linesByForms", atlas.linesByForms(word), 0);
            for (int place = 0; place < 10; place++) {
                due("formAt", atlas.formAt(word, place), NONE);
                due("expected", atlas.expected(word, place, 300), NONE);
            }
        }
        for (int school = 0; school < 3; school++) {
            due("owed", atlas.owed(school), 0);
            due("tell", atlas.tell(school), 0);
            due("copy", atlas.copy(school), 0);
        }
        for (int informant = 0; informant < 8; informant++) {
            due("forget", atlas.forget(informant), 0);
        }
        dueThrow("form of a new atlas", INDEX, () -> atlas.form(0));
        dueThrow("stands of a new atlas", INDEX, () -> stands(atlas, 0));
        dueThrow("quoted of a new atlas", INDEX, () -> atlas.quoted(0));
        dueThrow("interview with an empty draft", STATE, () -> atlas.interview(0, 0, 0, 0));
        due("the first rule", atlas.rule(0, 1, ANY, 0, 9, 0), 0);
        due("the first sound", atlas.sound(0), 1);
        due("the first interview", atlas.interview(0, 0, 0, 0), 0);
        due("another atlas", new DialectAtlas().sound(0), 1);
    }

    // ---- promise 2

    private static void testSound() {
        DialectAtlas atlas = new DialectAtlas();
        for (int sound = 0; sound < 8; sound++) {
            due("sound", atlas.sound(sound), sound + 1);
        }
        dueThrow("sound on a full draft", STATE, () -> atlas.sound(0));
        dueThrow("no such sound comes first", INDEX, () -> atlas.sound(8));
        due("a full draft's interview", atlas.interview(0, 0, 0, 0), 0);
        due("its form", atlas.form(0), number(0, 1, 2, 3, 4, 5, 6, 7));
        due("the draft is empty then", atlas.sound(7), 1);
        for (int far : FAR_OUT) {
            dueThrow("sound", INDEX, () -> atlas.sound(far));
        }
        dueThrow("sound -1", INDEX, () -> atlas.sound(-1));
        due("wrong sounds add none", atlas.sound(7), 2);
    }

    // ---- promise 3

    private static void testInterview() {
        DialectAtlas atlas = new DialectAtlas();
        dueThrow("no such place, on an empty draft", INDEX, () -> atlas.interview(0, 10, 301, 0));
        dueThrow("no such year, on an empty draft", ARGUMENT, () -> atlas.interview(0, 9, 301, 0));
        dueThrow("an empty draft", STATE, () -> atlas.interview(0, 9, 300, 0));
        draft(atlas, 4, 2);
        for (int far : FAR_OUT) {
            dueThrow("informant", INDEX, () -> atlas.interview(far, 0, far, 0));
            dueThrow("place", INDEX, () -> atlas.interview(0, far, far, 0));
            dueThrow("word", INDEX, () -> atlas.interview(0, 0, far, far));
            dueThrow("year", ARGUMENT, () -> atlas.interview(0, 0, far, 0));
        }
        dueThrow("informant 8", INDEX, () -> atlas.interview(8, 0, 0, 0));
        dueThrow("informant -1", INDEX, () -> atlas.interview(-1, 0, 0, 0));
        dueThrow("place 10", INDEX, () -> atlas.interview(0, 10, 0, 0));
        dueThrow("place -1", INDEX, () -> atlas.interview(0, -1, 0, 0));
        dueThrow("word 4", INDEX, () -> atlas.interview(0, 0, 0, 4));
        dueThrow("word -1", INDEX, () -> atlas.interview(0, 0, 0, -1));
        dueThrow("year 301", ARGUMENT, () -> atlas.interview(0, 0, 301, 0));
        dueThrow("year -1", ARGUMENT, () -> atlas.interview(0, 0, -1, 0));
        due("wrong calls leave the draft", atlas.interview(7, 9, 300, 3), 0);
        due("its form", atlas.form(0), number(4, 2));
        dueThrow("the draft is empty then", STATE, () -> atlas.interview(7, 9, 300, 3));
        testFullInterviews(atlas);
    }

    private static void testFullInterviews(DialectAtlas atlas) {
        for (int i = 1; i < 40; i++) {
            due("interview", tell(atlas, i % 8, i % 10, i % 4, i % 8), i);
        }
        atlas.forget(3);
        draft(atlas, 1);
        dueThrow("a 41st, forgotten ones counted", STATE, () -> atlas.interview(0, 0, 0, 0));
        dueThrow("no such year, among 40", ARGUMENT, () -> atlas.interview(0, 0, 301, 0));
        dueThrow("no such word, among 40", INDEX, () -> atlas.interview(0, 0, 301, 4));
        due("the draft stays", atlas.sound(2), 2);
        due("the last one", atlas.form(39), number(7));
    }

    // ---- promise 4

    private static void testSetRoot() {
        DialectAtlas atlas = new DialectAtlas();
        dueThrow("an empty draft", STATE, () -> atlas.setRoot(0));
        dueThrow("no such word, on an empty draft", INDEX, () -> atlas.setRoot(4));
        draft(atlas, 5, 0);
        for (int far : FAR_OUT) {
            dueThrow("word", INDEX, () -> atlas.setRoot(far));
        }
        dueThrow("word -1", INDEX, () -> atlas.setRoot(-1));
        due("the first root", atlas.setRoot(3), NONE);
        dueThrow("the draft is empty then", STATE, () -> atlas.setRoot(3));
        due("the root", atlas.expected(3, 0, 0), number(5, 0));
        due("another word's", atlas.expected(2, 0, 0), NONE);
        draft(atlas, 7, 7, 7, 7, 7, 7, 7, 7);
        due("the second root", atlas.setRoot(3), number(5, 0));
        draft(atlas, 0);
        due("the third root", atlas.setRoot(3), LONGEST);
        due("another word's root", new DialectAtlas().expected(3, 0, 0), NONE);
        draft(atlas, 1);
        due("the first root of another word", atlas.setRoot(0), NONE);
    }

    // ---- promise 5

    private static void testForm() {
        DialectAtlas atlas = new DialectAtlas();
        tell(atlas, 0, 0, 0, 0);
        tell(atlas, 1, 0, 0, 7, 7, 7, 7, 7, 7, 7, 7);
        tell(atlas, 0, 5, 2, 3, 1);
        due("form", atlas.form(0), 1);
        due("the greatest form", atlas.form(1), LONGEST);
        due("form", atlas.form(2), 38);
        atlas.forget(0);
        due("a forgotten form", atlas.form(0), NONE);
        due("another's form", atlas.form(1), LONGEST);
        due("a forgotten form", atlas.form(2), NONE);
        dueThrow("form 3", INDEX, () -> atlas.form(3));
        dueThrow("form -1", INDEX, () -> atlas.form(-1));
        for (int far : FAR_OUT) {
            dueThrow("form", INDEX, () -> atlas.form(far));
        }
    }

    // ---- promise 6

    private static void testRule() {
        DialectAtlas atlas = new DialectAtlas();
        for (int far : FAR_OUT) {
            dueThrow("sound", INDEX, () -> atlas.rule(far, far, far, 0, 0, far));
            dueThrow("first", INDEX, () -> atlas.rule(0, far, far, far, 0, far));
            dueThrow("last", INDEX, () -> atlas.rule(0, far, far, 0, far, far));
            dueThrow("to", ARGUMENT, () -> atlas.rule(0, far, 0, 0, 0, 0));
            dueThrow("behind", ARGUMENT, () -> atlas.rule(0, 1, far, 0, 0, 0));
            dueThrow("year", ARGUMENT, () -> atlas.rule(0, 1, 0, 0, 0, far));
        }
        dueThrow("sound 8", INDEX, () -> atlas.rule(8, 0, 0, 0, 0, 0));
        dueThrow("sound -1", INDEX, () -> atlas.rule(-1, 0, 0, 0, 0, 0));
        dueThrow("first 10", INDEX, () -> atlas.rule(0, 1, 0, 10, 0, 0));
        dueThrow("first -1", INDEX, () -> atlas.rule(0, 1, 0, -1, 0, 0));
        dueThrow("last 10", INDEX, () -> atlas.rule(0, 1, 0, 0, 10, 0));
        dueThrow("last -1", INDEX, () -> atlas.rule(0, 1, 0, 0, -1, 0));
        dueThrow("to 8", ARGUMENT, () -> atlas.rule(0, 8, 0, 0, 0, 0));
        dueThrow("to the sound itself", ARGUMENT, () -> atlas.rule(5, 5, 0, 0, 0, 0));
        dueThrow("behind 10", ARGUMENT, () -> atlas.rule(0, 1, 10, 0, 0, 0));
        dueThrow("behind -1", ARGUMENT, () -> atlas.rule(0, 1, -1, 0, 0, 0));
        dueThrow("year 301", ARGUMENT, () -> atlas.rule(0, 1, 0, 0, 0, 301));
        dueThrow("year -1", ARGUMENT, () -> atlas.rule(0, 1, 0, 0, 0, -1));
        dueThrow("last before first", ARGUMENT, () -> atlas.rule(0, 1, 0, 4, 3, 0));
        testFullRules(atlas);
    }

    private static void testFullRules(DialectAtlas atlas) {
        due("all at their least", atlas.rule(0, LOST, 0, 0, 0, 0), 0);
        due("all at their most", atlas.rule(7, 6, ANY, 9, 9, 300), 1);
        due("to 7, END", atlas.rule(6, 7, END, 4, 4, 1), 2);
        due("to 0, behind 7", atlas.rule(6, 0, 7, 4, 4, 1), 3);
        for (int i = 4; i < 20; i++) {
            due("the same rule again", atlas.rule(0, 1, 0, 0, 9, 0), i);
        }
        dueThrow("a 21st rule", STATE, () -> atlas.rule(0, 1, 0, 0, 9, 0));
        dueThrow("no such year, among 20", ARGUMENT, () -> atlas.rule(0, 1, 0, 0, 9, 301));
        dueThrow("no such sound, among 20", INDEX, () -> atlas.rule(8, 1, 0, 0, 9, 301));
        dueThrow("rule 20", INDEX, () -> stands(atlas, 20));
        due("rule 19", stands(atlas, 19), 1);
        tell(atlas, 0, 0, 0, 1);
        atlas.rest(19, 0);
        atlas.forget(0);
        dueThrow("a 21st rule, fallen ones counted", STATE, () -> atlas.rule(0, 1, 0, 0, 9, 0));
    }

    // ---- promise 7

    private static void testRest() {
        DialectAtlas atlas = new DialectAtlas();
        atlas.rule(0, 1, ANY, 0, 9, 0);
        dueThrow("no such interview", INDEX, () -> atlas.rest(0, 0));
        tell(atlas, 0, 0, 0, 1);
        tell(atlas, 1, 3, 1, 2);
        tell(atlas, 2, 6, 2, 3);
        dueThrow("rule 1", INDEX, () -> atlas.rest(1, 0));
        dueThrow("rule -1", INDEX, () -> atlas.rest(-1, 0));
        dueThrow("interview 3", INDEX, () -> atlas.rest(0, 3));
        dueThrow("interview -1", INDEX, () -> atlas.rest(0, -1));
        for (int far : FAR_OUT) {
            dueThrow("rule", INDEX, () -> atlas.rest(far, 0));
            dueThrow("interview", INDEX, () -> atlas.rest(0, far));
        }
        due("rest", atlas.rest(0, 2), 1);
        dueThrow("rest on the same", STATE, () -> atlas.rest(0, 2));
        due("rest", atlas.rest(0, 0), 2);
        atlas.rule(1, 2, ANY, 0, 9, 0);
        due("another rule", atlas.rest(1, 0), 1);
        atlas.forget(0);
        dueThrow("a fallen rule", STATE, () -> atlas.rest(1, 1));
        dueThrow("a forgotten interview", STATE, () -> atlas.rest(0, 0));
        dueThrow("no such interview, of a fallen rule", INDEX, () -> atlas.rest(1, 3));
        due("rest, one being forgotten", atlas.rest(0, 1), 2);
    }

    // ---- promise 8

    private static void testStands() {
        DialectAtlas atlas = new DialectAtlas();
        atlas.rule(0, 1, ANY, 0, 9, 0);
        atlas.rule(0, 1, ANY, 0, 9, 0);
        tell(atlas, 4, 0, 0, 1);
        atlas.rest(1, 0);
        due("a rule that rests on none", stands(atlas, 0), 1);
        due("a rule that rests", stands(atlas, 1), 1);
        atlas.forget(4);
        due("a rule that never rested", stands(atlas, 0), 1);
        due("a rule that rests no more", stands(atlas, 1), 0);
        tell(atlas, 4, 0, 0, 1);
        atlas.forget(4);
        due("a fallen rule, later", stands(atlas, 1), 0);
        dueThrow("rule 2", INDEX, () -> stands(atlas, 2));
        dueThrow("rule -1", INDEX, () -> stands(atlas, -1));
        for (int far : FAR_OUT) {
            dueThrow("rule", INDEX, () -> stands(atlas, far));
        }
    }

    // ---- promise 9

    private static void testExpectedRange() {
        DialectAtlas atlas = new DialectAtlas();
        root(atlas, 1, 0);
        atlas.rule(0, 1, ANY, 3, 5, 100);
        due("before its places", atlas.expected(1, 2, 300), number(0));
        due("its first place", atlas.expected(1, 3, 300), number(1));
        due("its last place", atlas.expected(1, 5, 300), number(1));
        due("behind its places", atlas.expected(1, 6, 300), number(0));
        due("before its year", atlas.expected(1, 4, 99), number(0));
        due("its first year", atlas.expected(1, 4, 100), number(1));
        due("no root", atlas.expected(0, 4, 100), NONE);
        dueThrow("word 4", INDEX, () -> atlas.expected(4, 0, 301));
        dueThrow("word -1", INDEX, () -> atlas.expected(-1, 0, 301));
        dueThrow("place 10", INDEX, () -> atlas.expected(0, 10, -1));
        dueThrow("place -1", INDEX, () -> atlas.expected(0, -1, -1));
        dueThrow("year 301, no root", ARGUMENT, () -> atlas.expected(0, 0, 301));
        dueThrow("year 301", ARGUMENT, () -> atlas.expected(1, 0, 301));
        dueThrow("year -1", ARGUMENT, () -> atlas.expected(1, 0, -1));
        for (int far : FAR_OUT) {
            dueThrow("word", INDEX, () -> atlas.expected(far, 0, far));
            dueThrow("place", INDEX, () -> atlas.expected(0, far, far));
            dueThrow("year", ARGUMENT, () -> atlas.expected(1, 0, far));
        }
    }

    private static void testExpectedAppliesAtOnce() {
        DialectAtlas atlas = new DialectAtlas();
        root(atlas, 0, 2, 2, 2, 3);
        root(atlas, 1, 2, 2);
        root(atlas, 2, 2);
        atlas.rule(2, LOST, 2, 0, 0, 0);
        due("those go behind which 2 stood", atlas.expected(0, 0, 0), number(2, 3));
        atlas.rule(2, 3, 3, 1, 1, 0);
        due("only one is before 3 as it was", atlas.expected(0, 1, 0), number(2, 2, 3, 3));
        atlas.rule(2, LOST, ANY, 2, 2, 0);
        due("all 2 go", atlas.expected(0, 2, 0), number(3));
        due("if all would go, it stays", atlas.expected(1, 2, 0), number(2, 2));
        due("if the one would go, it stays", atlas.expected(2, 2, 0), number(2));
        due("the root is as it was", atlas.expected(0, 9, 0), number(2, 2, 2, 3));
    }

    private static void testExpectedBehind() {
        DialectAtlas atlas = new DialectAtlas();
        root(atlas, 0, 0, 5, 0, 7, 0);
        atlas.rule(0, 1, END, 0, 0, 0);
        due("END", atlas.expected(0, 0, 0), number(0, 5, 0, 7, 1));
        atlas.rule(0, 1, ANY, 1, 1, 0);
        due("ANY", atlas.expected(0, 1, 0), number(1, 5, 1, 7, 1));
        atlas.rule(0, 1, 5, 2, 2, 0);
        due("a sound", atlas.expected(0, 2, 0), number(1, 5, 0, 7, 0));
        atlas.rule(0, 1, 7, 3, 3, 0);
        due("the sound 7", atlas.expected(0, 3, 0), number(0, 5, 1, 7, 0));
        atlas.rule(0, 1, 0, 4, 4, 0);
        due("a sound not there", atlas.expected(0, 4, 0), number(0, 5, 0, 7, 0));
        atlas.rule(0, LOST, END, 5, 5, 0);
        due("the last goes", atlas.expected(0, 5, 0), number(0, 5, 0, 7));
        atlas.rule(0, LOST, 5, 6, 6, 0);
        due("the first goes", atlas.expected(0, 6, 0), number(5, 0, 7, 0));
        atlas.rule(0, LOST, ANY, 7, 7, 0);
        due("all of one sound go", atlas.expected(0, 7, 0), number(5, 7));
        root(atlas, 0, 7, 7, 7, 7, 7, 7, 7, 7);
        due("the greatest form", atlas.expected(0, 0, 0), LONGEST);
    }

    private static void testExpectedOrder() {
        DialectAtlas atlas = new DialectAtlas();
        root(atlas, 0, 0);
        atlas.rule(1, 2, ANY, 0, 9, 0);
        atlas.rule(0, 1, ANY, 0, 9, 200);
        due("by rising numbers", atlas.expected(0, 0, 200), number(1));
        atlas.rule(1, 3, ANY, 0, 9, 0);
        due("by numbers, not by years", atlas.expected(0, 0, 200), number(3));
        tell(atlas, 6, 0, 0, 1);
        atlas.rest(2, 0);
        atlas.forget(6);
        due("without the fallen one", atlas.expected(0, 0, 200), number(1));
        root(atlas, 0, 1, 0);
        due("a later root", atlas.expected(0, 0, 300), number(2, 1));
    }

    // ---- promise 10

    private static void testFar() {
        DialectAtlas atlas = new DialectAtlas();
        tell(atlas, 0, 5, 0, 1, 2, 3);
        due("no root", atlas.far(0), NONE);
        due("one put in", farFromRoot(atlas, 1, 2, 4, 3), 1);
        due("one taken out", farFromRoot(atlas, 2, 3), 1);
        due("one in place of another", farFromRoot(atlas, 1, 7, 3), 1);
        due("the same", farFromRoot(atlas, 1, 2, 3), 0);
        due("none in common", farFromRoot(atlas, 4, 5, 6), 3);
        due("turned round", farFromRoot(atlas, 3, 2, 1), 2);
        due("moved by one", farFromRoot(atlas, 2, 3, 1), 2);
        due("much longer", farFromRoot(atlas, 0, 1, 0, 2, 0, 3, 0, 0), 5);
        due("the first sound alone", farFromRoot(atlas, 1), 2);
        due("a sound twice", farFromRoot(atlas, 1, 1, 2, 2, 3, 3), 3);
        due("the last sound alone", farFromRoot(atlas, 3), 2);
        atlas.rule(3, 2, ANY, 5, 5, 101);
        due("a rule of a later year", atlas.far(0), 2);
        atlas.rule(3, 2, ANY, 4, 4, 0);
        due("a rule of another place", atlas.far(0), 2);
        atlas.rule(3, 0, ANY, 5, 5, 100);
        due("a rule of its place and year", atlas.far(0), 3);
        tell(atlas, 1, 5, 1, 1);
        due("another word, without a root", atlas.far(1), NONE);
        testFarthest(atlas);
        dueThrow("far 4", INDEX, () -> atlas.far(4));
        dueThrow("far -1", INDEX, () -> atlas.far(-1));
        for (int far : FAR_OUT) {
            dueThrow("far", INDEX, () -> atlas.far(far));
        }
    }

    private static void testFarthest(DialectAtlas atlas) {
        root(atlas, 2, 7, 7, 7, 7, 7, 7, 7, 7);
        tell(atlas, 2, 0, 2, 6, 6, 6, 6, 6, 6, 6, 6);
        due("all eight", atlas.far(2), 8);
        tell(atlas, 3, 0, 2, 6);
        due("one of eight", atlas.far(3), 8);
        atlas.forget(0);
        due("forgotten", atlas.far(0), NONE);
        due("another's", atlas.far(2), 8);
    }

    private static int farFromRoot(DialectAtlas atlas, int... sounds) {
        root(atlas, 0, sounds);
        return atlas.far(0);
    }

    // ---- promise 11

    private static void testFormAt() {
        DialectAtlas atlas = new DialectAtlas();
        due("none", atlas.formAt(1, 4), NONE);
        tell(atlas, 0, 4, 1, 5);
        due("the one", atlas.formAt(1, 4), number(5));
        tell(atlas, 1, 4, 1, 3);
        due("of two the lower interview's", atlas.formAt(1, 4), number(5));
        draft(atlas, 3);
        atlas.interview(2, 4, 0, 1);
        due("most, whatever the year", atlas.formAt(1, 4), number(3));
        tell(atlas, 3, 4, 1, 5);
        due("equal again", atlas.formAt(1, 4), number(5));
        tell(atlas, 1, 4, 0, 3);
        tell(atlas, 1, 5, 1, 3);
        due("another word and place do not count", atlas.formAt(1, 4), number(5));
        due("another word", atlas.formAt(0, 4), number(3));
        due("another place", atlas.formAt(1, 5), number(3));
        atlas.forget(0);
        due("without the forgotten", atlas.formAt(1, 4), number(3));
        atlas.forget(1);
        due("equal: the lowest one that is there", atlas.formAt(1, 4), number(3));
        due("all forgotten", atlas.formAt(1, 5), NONE);
        dueThrow("word 4", INDEX, () -> atlas.formAt(4, 0));
        dueThrow("word -1", INDEX, () -> atlas.formAt(-1, 0));
        dueThrow("place 10", INDEX, () -> atlas.formAt(0, 10));
        dueThrow("place -1", INDEX, () -> atlas.formAt(0, -1));
        for (int far : FAR_OUT) {
            dueThrow("word", INDEX, () -> atlas.formAt(far, 0));
            dueThrow("place", INDEX, () -> atlas.formAt(0, far));
        }
    }

    // ---- promises 12 and 13

    private static void dueLines(String what, DialectAtlas atlas, int word, int want) {
        due("lines, " + what, atlas.lines(word), want);
        due("linesByForms, " + what, atlas.linesByForms(word), want);
    }

    private static void testLines() {
        DialectAtlas atlas = new DialectAtlas();
        for (int place = 0; place < 10; place++) {
            dueLines("place " + place, atlas, 3, place < 2 ? 0 : (1 << (place - 1)) - 1);
            if (place != 1) {
                tell(atlas, place % 8, place, 3, place % 2);
            } else {
                dueLines("a place alone", atlas, 3, 0);
                tell(atlas, 6, 1, 3, 1);
            }
        }
        dueLines("between all", atlas, 3, 0x1FF);
        dueLines("another word", atlas, 2, 0);
        tell(atlas, 5, 0, 2, 1);
        tell(atlas, 5, 2, 2, 0);
        dueLines("a gap", atlas, 2, 0);
        tell(atlas, 5, 1, 2, 1);
        dueLines("the same form on one side", atlas, 2, 2);
        for (int far : FAR_OUT) {
            dueThrow("lines", INDEX, () -> atlas.lines(far));
            dueThrow("linesByForms", INDEX, () -> atlas.linesByForms(far));
        }
        dueThrow("lines 4", INDEX, () -> atlas.lines(4));
        dueThrow("lines -1", INDEX, () -> atlas.lines(-1));
        dueThrow("linesByForms 4", INDEX, () -> atlas.linesByForms(4));
        dueThrow("linesByForms -1", INDEX, () -> atlas.linesByForms(-1));
    }

    private static void testLinesAfterForgetting() {
        DialectAtlas atlas = new DialectAtlas();
        for (int word = 0; word < 4; word++) {
            tell(atlas, 0, 8, word, 1);
            tell(atlas, 1, 9, word, 2);
            tell(atlas, 2, 9, word, 1);
            dueLines("before", atlas, word, 1 << 8);
        }
        atlas.forget(1);
        for (int word = 0; word < 4; word++) {
            dueLines("the line rested on the forgotten one", atlas, word, 0);
        }
        atlas.forget(2);
        tell(atlas, 2, 9, 3, 5);
        dueLines("told anew", atlas, 3, 1 << 8);
        dueLines("another word", atlas, 0, 0);
    }

    // ---- promise 14

    private static void testForget() {
        DialectAtlas atlas = new DialectAtlas();
        tell(atlas, 7, 0, 0, 1);
        tell(atlas, 7, 1, 1, 2);
        tell(atlas, 0, 1, 2, 3);
        draft(atlas, 4);
        dueThrow("informant 8", INDEX, () -> atlas.forget(8));
        dueThrow("informant -1", INDEX, () -> atlas.forget(-1));
        for (int far : FAR_OUT) {
            dueThrow("informant", INDEX, () -> atlas.forget(far));
        }
        due("nobody's", atlas.forget(3), 0);
        due("all are there", atlas.form(0), number(1));
        due("two", atlas.forget(7), 2);
        due("forgotten", atlas.form(0), NONE);
        due("forgotten", atlas.form(1), NONE);
        due("another's", atlas.form(2), number(3));
        due("again", atlas.forget(7), 0);
        due("a later one, with the draft", atlas.interview(7, 0, 0, 0), 3);
        due("it is there", atlas.form(3), number(4));
        due("the earlier ones are not", atlas.form(0), NONE);
        due("one", atlas.forget(7), 1);
        due("one", atlas.forget(0), 1);
    }

    private static void testForgetFellsRules() {
        DialectAtlas atlas = new DialectAtlas();
        tell(atlas, 0, 0, 0, 1);
        tell(atlas, 0, 0, 0, 1);
        tell(atlas, 1, 0, 0, 1);
        for (int i = 0; i < 4; i++) {
            atlas.rule(0, 1, ANY, 0, 9, 0);
        }
        atlas.rest(0, 0);
        atlas.rest(0, 1);
        atlas.rest(1, 0);
        atlas.rest(1, 2);
        atlas.rest(2, 2);
        atlas.forget(0);
        due("it rested on this one's alone", stands(atlas, 0), 0);
        due("it rests on another's, too", stands(atlas, 1), 1);
        due("it rests on another's", stands(atlas, 2), 1);
        due("it rests on none", stands(atlas, 3), 1);
        atlas.forget(1);
        due("it has lost both in turn", stands(atlas, 1), 0);
        due("it has lost its one", stands(atlas, 2), 0);
        due("it rests on none", stands(atlas, 3), 1);
        due("it can rest on a later one", tell(atlas, 0, 0, 0, 1), 3);
        due("the rule that never rested", atlas.rest(3, 3), 1);
        dueThrow("the one that has fallen", STATE, () -> atlas.rest(0, 3));
    }

    // ---- promise 15

    private static void testCopy() {
        DialectAtlas atlas = new DialectAtlas();
        tell(atlas, 0, 0, 0, 1);
        tell(atlas, 1, 0, 0, 1);
        due("both", atlas.copy(2), 2);
        tell(atlas, 0, 0, 0, 1);
        due("what came later is not owed", atlas.forget(0), 2);
        due("one was known", atlas.owed(2), 1);
        due("the one that is there", atlas.copy(2), 1);
        due("in place of the former copy", atlas.owed(2), 0);
        due("nothing to tell", atlas.tell(2), 0);
        for (int i = 3; i < 40; i++) {
            tell(atlas, 3, 0, 0, 1);
        }
        due("38 there", atlas.copy(0), 38);
        dueThrow("school 3", INDEX, () -> atlas.copy(3));
        dueThrow("school -1", INDEX, () -> atlas.copy(-1));
        for (int far : FAR_OUT) {
            dueThrow("school", INDEX, () -> atlas.copy(far));
        }
    }

    // ---- promises 16 and 17

    private static void testTellAndOwed() {
        DialectAtlas atlas = new DialectAtlas();
        for (int i = 0; i < 40; i++) {
            tell(atlas, i % 8, 0, 0, 1);
        }
        atlas.copy(0);
        atlas.copy(1);
        due("none forgotten", atlas.tell(0), 0);
        atlas.forget(7);
        due("five", atlas.owed(0), 5);
        due("asking changes nothing", atlas.owed(0), 5);
        due("five told", atlas.tell(0), 5);
        due("none any more", atlas.owed(0), 0);
        due("none told again", atlas.tell(0), 0);
        atlas.forget(0);
        due("five later", atlas.owed(0), 5);
        due("ten at the other school", atlas.owed(1), 10);
        due("none without a copy", atlas.owed(2), 0);
        due("none told without a copy", atlas.tell(2), 0);
        due("ten told", atlas.tell(1), 10);
        due("the first school still owes", atlas.owed(0), 5);
        testToldSchoolLearnsNothing();
        dueThrow("tell 3", INDEX, () -> atlas.tell(3));
        dueThrow("tell -1", INDEX, () -> atlas.tell(-1));
        dueThrow("owed 3", INDEX, () -> atlas.owed(3));
        dueThrow("owed -1", INDEX, () -> atlas.owed(-1));
        for (int far : FAR_OUT) {
            dueThrow("tell", INDEX, () -> atlas.tell(far));
            dueThrow("owed", INDEX, () -> atlas.owed(far));
        }
    }

    private static void testToldSchoolLearnsNothing() {
        DialectAtlas atlas = new DialectAtlas();
        tell(atlas, 0, 0, 0, 1);
        atlas.copy(0);
        tell(atlas, 1, 0, 0, 1);
        due("none forgotten", atlas.tell(0), 0);
        atlas.forget(1);
        due("it does not know what came after its copy", atlas.owed(0), 0);
        atlas.forget(0);
        due("it knows what was there then", atlas.tell(0), 1);
    }

    // ---- promise 18

    private static void testQuote() {
        DialectAtlas atlas = new DialectAtlas();
        dueThrow("no interview yet", INDEX, () -> atlas.quote(0));
        tell(atlas, 0, 0, 0, 1);
        tell(atlas, 1, 0, 0, 2);
        atlas.forget(0);
        dueThrow("forgotten", STATE, () -> atlas.quote(0));
        for (int i = 0; i < 20; i++) {
            due("quote", atlas.quote(1), i);
        }
        dueThrow("a 21st quote", STATE, () -> atlas.quote(1));
        dueThrow("quote 2, among 20", INDEX, () -> atlas.quote(2));
        dueThrow("quote -1", INDEX, () -> atlas.quote(-1));
        for (int far : FAR_OUT) {
            dueThrow("quote", INDEX, () -> atlas.quote(far));
        }
        atlas.forget(1);
        tell(atlas, 1, 0, 0, 2);
        dueThrow("a 21st quote, what is gone counted", STATE, () -> atlas.quote(2));
        due("the last one stays", atlas.quoted(19), NONE);
    }

    // ---- promise 19

    private static void testQuoted() {
        DialectAtlas atlas = new DialectAtlas();
        tell(atlas, 0, 0, 0, 1);
        tell(atlas, 1, 0, 0, 7, 7, 7, 7, 7, 7, 7, 7);
        tell(atlas, 2, 9, 3, 4, 4);
        atlas.quote(2);
        atlas.quote(0);
        atlas.quote(2);
        atlas.quote(1);
        due("quoted", atlas.quoted(0), number(4, 4));
        due("quoted", atlas.quoted(1), number(1));
        due("quoted", atlas.quoted(2), number(4, 4));
        due("quoted", atlas.quoted(3), LONGEST);
        atlas.forget(2);
        due("gone", atlas.quoted(0), NONE);
        due("it stays", atlas.quoted(1), number(1));
        due("gone", atlas.quoted(2), NONE);
        due("it stays by its number", atlas.quoted(3), LONGEST);
        due("the next number", atlas.quote(0), 4);
        dueThrow("quoted 5", INDEX, () -> atlas.quoted(5));
        dueThrow("quoted -1", INDEX, () -> atlas.quoted(-1));
        for (int far : FAR_OUT) {
            dueThrow("quoted", INDEX, () -> atlas.quoted(far));
        }
    }
}
