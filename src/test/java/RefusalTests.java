import java.util.ArrayList;
import java.util.List;

/** The exceptions of the section 'Terms': which one is thrown, and that such a call changes nothing. */
public final class RefusalTests {
    private static final String NO_SUCH = "IndexOutOfBoundsException: there is no such informant, place,"
        + " word, school, sound, interview, rule or quote.";
    private static final String OUT_OF_RANGE = "IllegalArgumentException: another argument is out of its"
        + " range.";
    private static final String FIRST = "If several exceptions apply, the first one of the throws clause"
        + " is thrown.";
    private static final String UNCHANGED = "A call that throws changes nothing.";

    private interface Start {
        DialectAtlas make();
    }

    /** A call, or several, whose answers or exceptions are put in a list. */
    private interface Probe {
        void ask(DialectAtlas atlas, List<Integer> answers);
    }

    private interface Refused {
        int call(DialectAtlas atlas);
    }

    public static void main(String[] args) {
        Check.runAll(RefusalTests.class);
    }

    // ---- which exception

    @Holds(of = Holds.TERMS, says = NO_SUCH)
    static void thereIsNoSuchInformant() {
        DialectAtlas atlas = Check.atlasWith(8);
        atlas.sound(0);
        Check.refusesOutside(0, 7, Check.INDEX, n -> atlas.interview(n, 0, 0, 0));
        Check.refusesOutside(0, 7, Check.INDEX, atlas::forget);
    }

    @Holds(of = Holds.TERMS, says = NO_SUCH)
    static void thereIsNoSuchPlace() {
        DialectAtlas atlas = Check.atlasWith(8);
        atlas.sound(0);
        Check.refusesOutside(0, 9, Check.INDEX, n -> atlas.interview(0, n, 0, 0));
        Check.refusesOutside(0, 9, Check.INDEX, n -> atlas.rule(0, 1, 0, n, 9, 0));
        Check.refusesOutside(0, 9, Check.INDEX, n -> atlas.rule(0, 1, 0, 0, n, 0));
        Check.refusesOutside(0, 9, Check.INDEX, n -> atlas.expected(0, n, 0));
        Check.refusesOutside(0, 9, Check.INDEX, n -> atlas.formAt(0, n));
    }

    @Holds(of = Holds.TERMS, says = NO_SUCH)
    static void thereIsNoSuchWord() {
        DialectAtlas atlas = Check.atlasWith(8);
        atlas.sound(0);
        Check.refusesOutside(0, 3, Check.INDEX, n -> atlas.interview(0, 0, 0, n));
        Check.refusesOutside(0, 3, Check.INDEX, atlas::setRoot);
        Check.refusesOutside(0, 3, Check.INDEX, n -> atlas.expected(n, 0, 0));
        Check.refusesOutside(0, 3, Check.INDEX, n -> atlas.formAt(n, 0));
        Check.refusesOutside(0, 3, Check.INDEX, atlas::lines);
        Check.refusesOutside(0, 3, Check.INDEX, atlas::linesByForms);
    }

    @Holds(of = Holds.TERMS, says = NO_SUCH)
    static void thereIsNoSuchSchool() {
        DialectAtlas atlas = Check.atlasWith(8);
        Check.refusesOutside(0, 2, Check.INDEX, atlas::copy);
        Check.refusesOutside(0, 2, Check.INDEX, atlas::tell);
        Check.refusesOutside(0, 2, Check.INDEX, atlas::owed);
    }

    @Holds(of = Holds.TERMS, says = NO_SUCH)
    static void thereIsNoSuchSound() {
        DialectAtlas atlas = new DialectAtlas();
        Check.refusesOutside(0, 7, Check.INDEX, atlas::sound);
        Check.refusesOutside(0, 7, Check.INDEX, n -> atlas.rule(n, 1, 0, 0, 0, 0));
    }

    @Holds(of = Holds.TERMS, says = NO_SUCH)
    static void thereIsNoSuchInterview() {
        for (int count : new int[] {0, 1, 39, 40}) {
            DialectAtlas atlas = Check.atlasWith(count);
            Check.everywhere(atlas, 0, 1, Check.ANY);
            Check.refusesOutside(0, count - 1, Check.INDEX, atlas::form);
            Check.refusesOutside(0, count - 1, Check.INDEX, atlas::far);
            Check.refusesOutside(0, count - 1, Check.INDEX, atlas::quote);
            Check.refusesOutside(0, count - 1, Check.INDEX, n -> atlas.rest(0, n));
        }
    }

    @Holds(of = Holds.TERMS, says = NO_SUCH)
    static void thereIsNoSuchRule() {
        for (int count : new int[] {0, 1, 19, 20}) {
            DialectAtlas atlas = Check.atlasWith(1);
            for (int i = 0; i < count; i++) {
                Check.everywhere(atlas, 0, 1, Check.ANY);
            }
            Check.refusesOutside(0, count - 1, Check.INDEX, n -> atlas.rest(n, 0));
            Check.refusesOutside(0, count - 1, Check.INDEX, n -> atlas.stands(n) ? 1 : 0);
        }
    }

    @Holds(of = Holds.TERMS, says = NO_SUCH)
    static void thereIsNoSuchQuote() {
        for (int count : new int[] {0, 1, 19, 20}) {
            DialectAtlas atlas = Check.atlasWith(1);
            for (int i = 0; i < count; i++) {
                atlas.quote(0);
            }
            Check.refusesOutside(0, count - 1, Check.INDEX, atlas::quoted);
        }
    }

    @Holds(of = Holds.TERMS, says = OUT_OF_RANGE)
    static void aYearIsOutOfItsRange() {
        DialectAtlas atlas = new DialectAtlas();
        Check.root(atlas, 0, 0);
        atlas.sound(0);
        Check.refusesOutside(0, 300, Check.ARGUMENT, n -> atlas.interview(0, 0, n, 0));
        Check.refusesOutside(0, 300, Check.ARGUMENT, n -> atlas.rule(0, 1, 0, 0, 0, n));
        Check.refusesOutside(0, 300, Check.ARGUMENT, n -> atlas.expected(0, 0, n));
    }

    @Holds(of = Holds.TERMS, says = OUT_OF_RANGE)
    static void whatASoundBecomesOrWhatStandsBehindIsOutOfItsRange() {
        DialectAtlas atlas = new DialectAtlas();
        Check.refusesOutside(-1, 7, Check.ARGUMENT, n -> atlas.rule(0, n, 0, 0, 0, 0));
        Check.refusesOutside(0, 9, Check.ARGUMENT, n -> atlas.rule(0, 1, n, 0, 0, 0));
    }

    // ---- the first of several

    @Holds(of = Holds.TERMS, says = FIRST)
    static void ofSeveralSoundThrowsTheFirst() {
        DialectAtlas atlas = new DialectAtlas();
        Check.draft(atlas, 0, 0, 0, 0, 0, 0, 0, 0);
        Check.refusesOutside(0, 7, Check.INDEX, atlas::sound);
        Check.refuses("a full draft alone", Check.STATE, () -> atlas.sound(0));
    }

    @Holds(of = Holds.TERMS, says = FIRST)
    static void ofSeveralInterviewThrowsTheFirst() {
        DialectAtlas atlas = new DialectAtlas();
        dueOrderOfInterview(atlas);
        Check.refuses("an empty draft alone", Check.STATE, () -> atlas.interview(0, 0, 0, 0));
    }

    @Holds(of = Holds.TERMS, says = FIRST)
    static void ofSeveralAFullAtlasThrowsTheFirst() {
        DialectAtlas atlas = Check.atlasWith(40);
        dueOrderOfInterview(atlas);
        atlas.sound(0);
        dueOrderOfInterview(atlas);
        Check.refuses("40 interviews alone", Check.STATE, () -> atlas.interview(0, 0, 0, 0));
    }

    /** Ahead of these, the atlas has to be one that refuses every interview. */
    private static void dueOrderOfInterview(DialectAtlas atlas) {
        Check.refuses("no such informant, year", Check.INDEX, () -> atlas.interview(8, 0, 301, 0));
        Check.refuses("no such place, year", Check.INDEX, () -> atlas.interview(0, 10, 301, 0));
        Check.refuses("no such word, year", Check.INDEX, () -> atlas.interview(0, 0, 301, 4));
        Check.refuses("no such informant", Check.INDEX, () -> atlas.interview(-1, 0, 0, 0));
        Check.refuses("no such place", Check.INDEX, () -> atlas.interview(0, -1, 0, 0));
        Check.refuses("no such word", Check.INDEX, () -> atlas.interview(0, 0, 0, -1));
        Check.refuses("year too late", Check.ARGUMENT, () -> atlas.interview(0, 0, 301, 0));
        Check.refuses("year too early", Check.ARGUMENT, () -> atlas.interview(0, 0, -1, 0));
    }

    @Holds(of = Holds.TERMS, says = FIRST)
    static void ofSeveralSetRootThrowsTheFirst() {
        DialectAtlas atlas = new DialectAtlas();
        Check.refusesOutside(0, 3, Check.INDEX, atlas::setRoot);
        Check.refuses("an empty draft alone", Check.STATE, () -> atlas.setRoot(0));
    }

    @Holds(of = Holds.TERMS, says = FIRST)
    static void ofSeveralRuleThrowsTheFirst() {
        DialectAtlas atlas = new DialectAtlas();
        dueOrderOfRule(atlas);
        for (int i = 0; i < 20; i++) {
            Check.everywhere(atlas, 0, 1, Check.ANY);
        }
        dueOrderOfRule(atlas);
        Check.refuses("20 rules alone", Check.STATE, () -> atlas.rule(0, 1, 0, 0, 0, 0));
    }

    private static void dueOrderOfRule(DialectAtlas atlas) {
        Check.refuses("no such sound, to itself", Check.INDEX, () -> atlas.rule(8, 8, 10, 0, 0, 301));
        Check.refuses("no such sound, to LOST", Check.INDEX, () -> atlas.rule(-1, -1, 0, 0, 0, 0));
        Check.refuses("no such first place", Check.INDEX, () -> atlas.rule(0, 8, 10, 10, 9, 301));
        Check.refuses("no such first place", Check.INDEX, () -> atlas.rule(0, 0, -1, -1, 9, -1));
        Check.refuses("no such last place", Check.INDEX, () -> atlas.rule(0, 8, 10, 0, 10, 301));
        Check.refuses("no such last place, before first", Check.INDEX, () -> atlas.rule(0, 0, 0, 0, -1, 0));
        Check.refuses("to", Check.ARGUMENT, () -> atlas.rule(0, 8, 0, 0, 0, 0));
        Check.refuses("to itself", Check.ARGUMENT, () -> atlas.rule(0, 0, 0, 0, 0, 0));
        Check.refuses("behind", Check.ARGUMENT, () -> atlas.rule(0, 1, 10, 0, 0, 0));
        Check.refuses("last before first", Check.ARGUMENT, () -> atlas.rule(0, 1, 0, 1, 0, 0));
        Check.refuses("year", Check.ARGUMENT, () -> atlas.rule(0, 1, 0, 0, 0, 301));
    }

    @Holds(of = Holds.TERMS, says = FIRST)
    static void ofSeveralRestThrowsTheFirst() {
        DialectAtlas atlas = Check.atlasWith(2);
        Check.everywhere(atlas, 0, 1, Check.ANY);
        atlas.rest(0, 0);
        atlas.forget(0);
        Check.refusesOutside(0, 1, Check.INDEX, n -> atlas.rest(0, n));
        Check.refusesOutside(0, 0, Check.INDEX, n -> atlas.rest(n, 0));
        Check.refuses("fallen, forgotten", Check.STATE, () -> atlas.rest(0, 0));
    }

    @Holds(of = Holds.TERMS, says = FIRST)
    static void ofSeveralExpectedThrowsTheFirst() {
        DialectAtlas atlas = new DialectAtlas();
        Check.refusesOutside(0, 3, Check.INDEX, n -> atlas.expected(n, 0, 301));
        Check.refusesOutside(0, 9, Check.INDEX, n -> atlas.expected(0, n, -1));
        Check.refuses("year alone, without a root", Check.ARGUMENT, () -> atlas.expected(0, 0, 301));
    }

    @Holds(of = Holds.TERMS, says = FIRST)
    static void ofSeveralQuoteThrowsTheFirst() {
        DialectAtlas atlas = Check.atlasWith(1);
        for (int i = 0; i < 20; i++) {
            atlas.quote(0);
        }
        Check.refusesOutside(0, 0, Check.INDEX, atlas::quote);
        Check.refuses("20 quotes alone", Check.STATE, () -> atlas.quote(0));
    }

    // ---- what a refused call changes

    @Holds(of = Holds.TERMS, says = UNCHANGED)
    static void refusedIndicesChangeNothing() {
        Refused[] calls = {
            x -> x.sound(-1), x -> x.sound(8), x -> x.interview(-1, 0, 0, 0), x -> x.interview(8, 0, 0, 0),
            x -> x.interview(0, -1, 0, 0), x -> x.interview(0, 10, 0, 0), x -> x.interview(0, 0, 0, -1),
            x -> x.interview(0, 0, 0, 4), x -> x.setRoot(-1), x -> x.setRoot(4), x -> x.form(-1),
            x -> x.form(40), x -> x.rule(-1, 0, 0, 0, 0, 0), x -> x.rule(8, 0, 0, 0, 0, 0),
            x -> x.rule(0, 1, 0, -1, 0, 0), x -> x.rule(0, 1, 0, 10, 10, 0), x -> x.rule(0, 1, 0, 0, 10, 0),
            x -> x.rest(-1, 2), x -> x.rest(20, 2), x -> x.rest(0, -1), x -> x.rest(0, 40),
            x -> x.stands(-1) ? 1 : 0, x -> x.stands(20) ? 1 : 0, x -> x.expected(-1, 0, 0),
            x -> x.expected(4, 0, 0), x -> x.expected(0, -1, 0), x -> x.expected(0, 10, 0),
            x -> x.far(-1), x -> x.far(40), x -> x.formAt(-1, 0), x -> x.formAt(4, 0),
            x -> x.formAt(0, -1), x -> x.formAt(0, 10), x -> x.lines(-1), x -> x.lines(4),
            x -> x.linesByForms(-1), x -> x.linesByForms(4), x -> x.forget(-1), x -> x.forget(8),
            x -> x.copy(-1), x -> x.copy(3), x -> x.tell(-1), x -> x.tell(3), x -> x.owed(-1),
            x -> x.owed(3), x -> x.quote(-1), x -> x.quote(40), x -> x.quoted(-1), x -> x.quoted(20)};
        dueUnchanged(calls, Check.INDEX, RefusalTests::begun);
        dueUnchanged(calls, Check.INDEX, RefusalTests::full);
    }

    @Holds(of = Holds.TERMS, says = UNCHANGED)
    static void refusedArgumentsChangeNothing() {
        Refused[] calls = {
            x -> x.interview(0, 0, -1, 0), x -> x.interview(0, 0, 301, 0), x -> x.rule(0, -2, 0, 0, 0, 0),
            x -> x.rule(0, 8, 0, 0, 0, 0), x -> x.rule(0, 0, 0, 0, 0, 0), x -> x.rule(0, 1, -1, 0, 0, 0),
            x -> x.rule(0, 1, 10, 0, 0, 0), x -> x.rule(0, 1, 0, 1, 0, 0), x -> x.rule(0, 1, 0, 0, 0, -1),
            x -> x.rule(0, 1, 0, 0, 0, 301), x -> x.expected(0, 0, -1), x -> x.expected(0, 0, 301)};
        dueUnchanged(calls, Check.ARGUMENT, RefusalTests::begun);
        dueUnchanged(calls, Check.ARGUMENT, RefusalTests::full);
    }

    @Holds(of = Holds.TERMS, says = UNCHANGED)
    static void refusedStatesChangeNothing() {
        Refused[] calls = {x -> x.rest(0, 0), x -> x.rest(0, 1), x -> x.rest(1, 2), x -> x.quote(1)};
        dueUnchanged(calls, Check.STATE, RefusalTests::begun);
        dueUnchanged(calls, Check.STATE, RefusalTests::full);
    }

    @Holds(of = Holds.TERMS, says = UNCHANGED)
    static void whatAFullAtlasRefusesChangesNothing() {
        Refused[] calls = {x -> x.sound(0), x -> x.interview(0, 0, 0, 0), x -> x.rule(0, 1, 0, 0, 0, 0),
            x -> x.quote(0)};
        dueUnchanged(calls, Check.STATE, RefusalTests::full);
    }

    @Holds(of = Holds.TERMS, says = UNCHANGED)
    static void whatAnEmptyDraftRefusesChangesNothing() {
        Refused[] calls = {x -> x.interview(0, 0, 0, 0), x -> x.setRoot(0)};
        dueUnchanged(calls, Check.STATE, RefusalTests::withEmptyDraft);
    }

    /** Looks that two atlases answer the same, one of which was asked what it refuses. */
    private static void dueUnchanged(Refused[] calls, Class<?> want, Start start) {
        Probe[] probes = {RefusalTests::askForms, RefusalTests::askExpected, RefusalTests::askDraft,
            RefusalTests::askRoot, RefusalTests::askRests, RefusalTests::askForgets, RefusalTests::askTells,
            RefusalTests::askNumbers};
        for (int p = 0; p < probes.length; p++) {
            List<Integer> untouched = new ArrayList<>();
            probes[p].ask(start.make(), untouched);
            for (int c = 0; c < calls.length; c++) {
                Refused refused = calls[c];
                DialectAtlas atlas = start.make();
                Check.refuses("call " + c, want, () -> refused.call(atlas));
                List<Integer> asked = new ArrayList<>();
                probes[p].ask(atlas, asked);
                Check.due("probe " + p + " after the call " + c, asked, untouched);
            }
        }
    }

    // ---- atlases that refuse

    private static DialectAtlas begun() {
        DialectAtlas atlas = withEmptyDraft();
        Check.draft(atlas, 3, 1);
        return atlas;
    }

    private static DialectAtlas full() {
        DialectAtlas atlas = withEmptyDraft();
        for (int i = 5; i < 40; i++) {
            Check.enter(atlas, i % 8, i % 10, i % 4, i % 8, i / 8);
        }
        for (int i = 3; i < 20; i++) {
            Check.everywhere(atlas, i % 8, (i + 1) % 8, Check.ANY);
        }
        for (int i = 2; i < 20; i++) {
            atlas.quote(i);
        }
        atlas.copy(2);
        Check.draft(atlas, 7, 6, 5, 4, 3, 2, 1, 0);
        return atlas;
    }

    /** The interview 1 is forgotten, the rule 1 has fallen, and the rule 0 rests on the interview 0. */
    private static DialectAtlas withEmptyDraft() {
        DialectAtlas atlas = Check.atlasWith(5);
        Check.root(atlas, 0, 0, 2, 0);
        Check.root(atlas, 3, 3);
        Check.everywhere(atlas, 0, 1, Check.END);
        Check.everywhere(atlas, 2, Check.LOST, Check.ANY);
        atlas.rule(3, 4, Check.ANY, 3, 6, 100);
        atlas.rest(0, 0);
        atlas.rest(1, 1);
        atlas.quote(1);
        atlas.quote(4);
        atlas.copy(0);
        atlas.copy(1);
        atlas.forget(1);
        atlas.tell(1);
        return atlas;
    }

    // ---- probes: each is asked of an atlas of its own, which has at most 512 calls in all

    private static void add(List<Integer> answers, Check.Call call) {
        try {
            answers.add(call.answer());
        } catch (IndexOutOfBoundsException thrown) {
            answers.add(-1001);
        } catch (IllegalArgumentException thrown) {
            answers.add(-1002);
        } catch (IllegalStateException thrown) {
            answers.add(-1003);
        }
    }

    private static void askForms(DialectAtlas atlas, List<Integer> answers) {
        for (int i = 0; i < 41; i++) {
            int number = i;
            add(answers, () -> atlas.form(number));
            add(answers, () -> atlas.formAt(number % 4, number / 4));
        }
        for (int i = 0; i < 21; i++) {
            int number = i;
            add(answers, () -> atlas.quoted(number));
            add(answers, () -> atlas.stands(number) ? 1 : 0);
        }
        for (int i = 0; i < 4; i++) {
            int number = i;
            add(answers, () -> atlas.lines(number));
            add(answers, () -> atlas.linesByForms(number));
            add(answers, () -> atlas.owed(number));
        }
    }

    private static void askExpected(DialectAtlas atlas, List<Integer> answers) {
        for (int i = 0; i < 40; i++) {
            int number = i;
            add(answers, () -> atlas.expected(number % 4, number / 4, 0));
            add(answers, () -> atlas.expected(number % 4, number / 4, 300));
            add(answers, () -> atlas.far(number));
        }
    }

    private static void askDraft(DialectAtlas atlas, List<Integer> answers) {
        add(answers, () -> atlas.sound(5));
        add(answers, () -> atlas.interview(0, 0, 0, 0));
        add(answers, () -> atlas.form(5));
        add(answers, () -> atlas.sound(5));
    }

    private static void askRoot(DialectAtlas atlas, List<Integer> answers) {
        add(answers, () -> atlas.setRoot(0));
        add(answers, () -> atlas.expected(0, 0, 0));
        add(answers, () -> atlas.sound(5));
        add(answers, () -> atlas.setRoot(0));
        add(answers, () -> atlas.setRoot(1));
    }

    private static void askRests(DialectAtlas atlas, List<Integer> answers) {
        for (int rule = 0; rule < 4; rule++) {
            for (int interview = 0; interview < 41; interview++) {
                int on = interview;
                int resting = rule;
                add(answers, () -> atlas.rest(resting, on));
            }
        }
    }

    private static void askForgets(DialectAtlas atlas, List<Integer> answers) {
        for (int informant = 0; informant < 8; informant++) {
            int forgotten = informant;
            add(answers, () -> atlas.forget(forgotten));
            add(answers, () -> atlas.owed(0));
            add(answers, () -> atlas.owed(1));
            add(answers, () -> atlas.owed(2));
            add(answers, () -> atlas.stands(0) ? 1 : 0);
            add(answers, () -> atlas.stands(2) ? 1 : 0);
        }
    }

    private static void askTells(DialectAtlas atlas, List<Integer> answers) {
        for (int school = 0; school < 3; school++) {
            int told = school;
            add(answers, () -> atlas.tell(told));
            add(answers, () -> atlas.copy(told));
        }
    }

    private static void askNumbers(DialectAtlas atlas, List<Integer> answers) {
        add(answers, () -> atlas.rule(0, 1, 0, 0, 0, 0));
        add(answers, () -> atlas.quote(4));
        add(answers, () -> atlas.interview(0, 0, 0, 0));
    }
}
