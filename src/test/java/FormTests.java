/** Promises 1 to 5: a new object, sound, interview, setRoot and form. */
public final class FormTests {
    private static final String NEW = "An atlas without interviews, roots and rules.";
    private static final String INTERVIEW_INDEX = "Throws `IndexOutOfBoundsException` if there is no such"
        + " informant, place or word";
    private static final String INTERVIEW_STATE = "Throws `IllegalStateException` if the draft is empty, or"
        + " there are 40 interviews, forgotten ones counted";

    public static void main(String[] args) {
        Check.runAll(FormTests.class);
    }

    // ---- promise 1: a new object

    @Holds(of = 1, says = NEW)
    static void aNewAtlasHasNoInterviews() {
        DialectAtlas atlas = new DialectAtlas();
        Check.refuses("form", Check.INDEX, () -> atlas.form(0));
        Check.refuses("far", Check.INDEX, () -> atlas.far(0));
        Check.refuses("quote", Check.INDEX, () -> atlas.quote(0));
        Check.refuses("quoted", Check.INDEX, () -> atlas.quoted(0));
        for (int word = 0; word < 4; word++) {
            Check.dueLines("none", atlas, word, 0);
            for (int place = 0; place < 10; place++) {
                Check.due("formAt", atlas.formAt(word, place), Check.NONE);
            }
        }
        for (int informant = 0; informant < 8; informant++) {
            Check.due("forget", atlas.forget(informant), 0);
        }
        Check.due("the first interview", Check.enter(atlas, 0, 0, 0, 0), 0);
    }

    @Holds(of = 1, says = NEW)
    static void aNewAtlasOwesNoSchoolAnything() {
        DialectAtlas atlas = new DialectAtlas();
        for (int school = 0; school < 3; school++) {
            Check.due("owed", atlas.owed(school), 0);
            Check.due("tell", atlas.tell(school), 0);
            Check.due("copy", atlas.copy(school), 0);
        }
    }

    @Holds(of = 1, says = NEW)
    static void aNewAtlasHasNoRoots() {
        DialectAtlas atlas = new DialectAtlas();
        for (int word = 0; word < 4; word++) {
            for (int place = 0; place < 10; place++) {
                Check.due("expected", atlas.expected(word, place, 300), Check.NONE);
            }
            Check.due("the root before", Check.root(atlas, word, 0), Check.NONE);
        }
    }

    @Holds(of = 1, says = NEW)
    static void aNewAtlasHasNoRules() {
        DialectAtlas atlas = Check.atlasWith(1);
        Check.refuses("stands", Check.INDEX, () -> atlas.stands(0) ? 1 : 0);
        Check.refuses("rest", Check.INDEX, () -> atlas.rest(0, 0));
        Check.root(atlas, 0, 0, 1, 2, 3, 4, 5, 6, 7);
        Check.due("no sound changes", atlas.expected(0, 0, 300), Check.number(0, 1, 2, 3, 4, 5, 6, 7));
        Check.due("the first rule", Check.everywhere(atlas, 0, 1, Check.ANY), 0);
    }

    @Holds(of = 1, says = NEW)
    static void aNewAtlasKnowsNothingOfAnother() {
        DialectAtlas other = Check.atlasWith(40);
        Check.root(other, 0, 0);
        Check.everywhere(other, 0, 1, Check.ANY);
        other.quote(0);
        other.copy(0);
        other.forget(0);
        other.sound(5);
        aNewAtlasHasNoInterviews();
        aNewAtlasOwesNoSchoolAnything();
        aNewAtlasHasNoRoots();
        aNewAtlasHasNoRules();
        Check.due("the other one's draft", other.sound(5), 2);
    }

    // ---- promise 2: sound

    @Holds(of = 2, says = "Puts a sound at the end of the draft.")
    static void soundIsPutAtTheEnd() {
        DialectAtlas atlas = new DialectAtlas();
        Check.draft(atlas, 3, 1, 4);
        Check.due("form", atlas.form(atlas.interview(0, 0, 0, 0)), (4 * 9 + 2) * 9 + 5);
    }

    @Holds(of = 2, says = "- `sound`: 0 to 7")
    static void soundIsFrom0To7() {
        DialectAtlas atlas = new DialectAtlas();
        for (int sound = 0; sound <= 7; sound++) {
            Check.due("sound " + sound, atlas.sound(sound), sound + 1);
        }
        Check.due("form", atlas.form(atlas.interview(0, 0, 0, 0)), Check.number(0, 1, 2, 3, 4, 5, 6, 7));
        Check.refusesOutside(0, 7, Check.INDEX, atlas::sound);
    }

    @Holds(of = 2, says = "Returns how many sounds the draft has.")
    static void soundReturnsTheDraftsLength() {
        DialectAtlas atlas = new DialectAtlas();
        for (int length = 1; length <= 8; length++) {
            Check.due("sound", atlas.sound(0), length);
        }
        atlas.setRoot(0);
        Check.due("after a root", atlas.sound(7), 1);
        Check.due("the second", atlas.sound(7), 2);
        atlas.interview(0, 0, 0, 0);
        Check.due("after an interview", atlas.sound(7), 1);
    }

    @Holds(of = 2, says = "Throws `IndexOutOfBoundsException` if there is no such sound")
    static void soundRefusesNoSuchSound() {
        DialectAtlas atlas = new DialectAtlas();
        Check.refusesOutside(0, 7, Check.INDEX, atlas::sound);
        Check.due("none was put in", atlas.sound(7), 1);
        Check.draft(atlas, 7, 7, 7, 7, 7, 7, 7);
        Check.refuses("8, on a full draft", Check.INDEX, () -> atlas.sound(8));
    }

    @Holds(of = 2, says = "Throws `IllegalStateException` if the draft has 8")
    static void soundRefusesANinth() {
        DialectAtlas atlas = new DialectAtlas();
        Check.due("seven and one more", Check.draft(atlas, 7, 7, 7, 7, 7, 7, 7, 7), 8);
        for (int sound = 0; sound < 8; sound++) {
            int ninth = sound;
            Check.refuses("a ninth", Check.STATE, () -> atlas.sound(ninth));
        }
        Check.due("the eight", atlas.form(atlas.interview(0, 0, 0, 0)), Check.LONGEST);
    }

    // ---- promise 3: interview

    @Holds(of = 3, says = "Enters an interview, with the draft as its form; the draft is empty then.")
    static void interviewTakesTheDraft() {
        DialectAtlas atlas = new DialectAtlas();
        Check.draft(atlas, 5, 0);
        atlas.interview(0, 0, 0, 0);
        Check.due("its form", atlas.form(0), Check.number(5, 0));
        Check.due("it counts on the map", atlas.formAt(0, 0), Check.number(5, 0));
    }

    @Holds(of = 3, says = "Enters an interview, with the draft as its form; the draft is empty then.")
    static void interviewLeavesTheDraftEmpty() {
        DialectAtlas atlas = Check.atlasWith(1);
        Check.refuses("another interview", Check.STATE, () -> atlas.interview(0, 0, 0, 0));
        Check.refuses("a root", Check.STATE, () -> atlas.setRoot(0));
        Check.due("the first sound", atlas.sound(2), 1);
        Check.due("only the new sound", atlas.form(atlas.interview(0, 0, 0, 0)), 3);
        Check.due("the first form stays", atlas.form(0), Check.formOf(0));
    }

    @Holds(of = 3, says = "- `informant`: 0 to 7")
    static void informantOfInterviewIsFrom0To7() {
        DialectAtlas atlas = new DialectAtlas();
        Check.due("0", Check.enter(atlas, 0, 0, 0, 1), 0);
        Check.due("7", Check.enter(atlas, 7, 0, 0, 2), 1);
        Check.due("forget 7", atlas.forget(7), 1);
        Check.due("that of 0 is there", atlas.form(0), 2);
        Check.due("that of 7 is not", atlas.form(1), Check.NONE);
        Check.due("forget 0", atlas.forget(0), 1);
    }

    @Holds(of = 3, says = "- `place`: 0 to 9")
    static void placeOfInterviewIsFrom0To9() {
        DialectAtlas atlas = new DialectAtlas();
        Check.due("0", Check.enter(atlas, 0, 0, 0, 1), 0);
        Check.due("9", Check.enter(atlas, 0, 9, 0, 2), 1);
        Check.due("at 0", atlas.formAt(0, 0), 2);
        Check.due("at 9", atlas.formAt(0, 9), 3);
    }

    @Holds(of = 3, says = "- `year`: 0 to 300")
    static void yearOfInterviewIsFrom0To300() {
        DialectAtlas atlas = new DialectAtlas();
        Check.root(atlas, 0, 0);
        atlas.rule(0, 1, Check.ANY, 0, 9, 1);
        atlas.rule(1, 2, Check.ANY, 0, 9, 300);
        Check.due("in 0", atlas.far(Check.enterIn(0, atlas, 0, 0, 0, 0)), 0);
        Check.due("in 1", atlas.far(Check.enterIn(1, atlas, 0, 0, 0, 1)), 0);
        Check.due("in 299", atlas.far(Check.enterIn(299, atlas, 0, 0, 0, 1)), 0);
        Check.due("in 300", atlas.far(Check.enterIn(300, atlas, 0, 0, 0, 2)), 0);
    }

    @Holds(of = 3, says = "- `word`: 0 to 3")
    static void wordOfInterviewIsFrom0To3() {
        DialectAtlas atlas = new DialectAtlas();
        Check.due("0", Check.enter(atlas, 0, 0, 0, 1), 0);
        Check.due("3", Check.enter(atlas, 0, 0, 3, 2), 1);
        Check.due("of 0", atlas.formAt(0, 0), 2);
        Check.due("of 3", atlas.formAt(3, 0), 3);
    }

    @Holds(of = 3, says = "Returns the number of the interview.")
    static void interviewReturnsItsNumber() {
        DialectAtlas atlas = new DialectAtlas();
        for (int i = 0; i < 40; i++) {
            Check.due("interview", Check.enter(atlas, i % 3, 0, 0, 0), i);
            if (i % 5 == 4) {
                atlas.forget(i % 3);
            }
        }
    }

    @Holds(of = 3, says = INTERVIEW_INDEX)
    static void interviewRefusesNoSuchInformant() {
        DialectAtlas atlas = new DialectAtlas();
        atlas.sound(0);
        Check.refusesOutside(0, 7, Check.INDEX, n -> atlas.interview(n, 9, 300, 3));
    }

    @Holds(of = 3, says = INTERVIEW_INDEX)
    static void interviewRefusesNoSuchPlace() {
        DialectAtlas atlas = new DialectAtlas();
        atlas.sound(0);
        Check.refusesOutside(0, 9, Check.INDEX, n -> atlas.interview(7, n, 300, 3));
    }

    @Holds(of = 3, says = INTERVIEW_INDEX)
    static void interviewRefusesNoSuchWord() {
        DialectAtlas atlas = new DialectAtlas();
        atlas.sound(0);
        Check.refusesOutside(0, 3, Check.INDEX, n -> atlas.interview(7, 9, 300, n));
    }

    @Holds(of = 3, says = "Throws `IllegalArgumentException` if year is out of range")
    static void interviewRefusesAYearOutOfRange() {
        DialectAtlas atlas = new DialectAtlas();
        Check.refuses("301, with an empty draft", Check.ARGUMENT, () -> atlas.interview(7, 9, 301, 3));
        atlas.sound(0);
        Check.refusesOutside(0, 300, Check.ARGUMENT, n -> atlas.interview(7, 9, n, 3));
    }

    @Holds(of = 3, says = INTERVIEW_STATE)
    static void interviewRefusesAnEmptyDraft() {
        DialectAtlas atlas = new DialectAtlas();
        Check.refuses("a new draft", Check.STATE, () -> atlas.interview(7, 9, 300, 3));
        Check.root(atlas, 0, 0);
        Check.refuses("after a root", Check.STATE, () -> atlas.interview(7, 9, 300, 3));
        Check.due("the first one", Check.enter(atlas, 7, 9, 3, 0), 0);
        Check.refuses("after an interview", Check.STATE, () -> atlas.interview(7, 9, 300, 3));
    }

    @Holds(of = 3, says = INTERVIEW_STATE)
    static void interviewRefusesAFortyFirst() {
        DialectAtlas atlas = Check.atlasWith(39);
        Check.due("the fortieth", Check.enter(atlas, 0, 0, 0, 0), 39);
        atlas.sound(5);
        Check.refuses("a 41st", Check.STATE, () -> atlas.interview(0, 0, 0, 0));
        Check.due("the draft stays", atlas.sound(6), 2);
        atlas.setRoot(0);
        Check.due("it can be a root", atlas.expected(0, 0, 0), Check.number(5, 6));
    }

    @Holds(of = 3, says = INTERVIEW_STATE)
    static void interviewCountsForgottenOnes() {
        DialectAtlas atlas = Check.atlasWith(40);
        atlas.sound(5);
        for (int informant = 0; informant < 8; informant++) {
            atlas.forget(informant);
            Check.refuses("a 41st", Check.STATE, () -> atlas.interview(0, 0, 0, 0));
        }
    }

    // ---- promise 4: setRoot

    @Holds(of = 4, says = "Makes the draft the root of a word; the draft is empty then.")
    static void setRootTakesTheDraft() {
        DialectAtlas atlas = new DialectAtlas();
        Check.root(atlas, 2, 5, 0);
        Check.due("the root", atlas.expected(2, 0, 0), Check.number(5, 0));
        Check.root(atlas, 2, 1);
        Check.due("another root", atlas.expected(2, 0, 0), 2);
        Check.due("no interview is made", atlas.formAt(2, 0), Check.NONE);
    }

    @Holds(of = 4, says = "Makes the draft the root of a word; the draft is empty then.")
    static void setRootLeavesTheDraftEmpty() {
        DialectAtlas atlas = new DialectAtlas();
        Check.root(atlas, 2, 5, 0);
        Check.refuses("another root", Check.STATE, () -> atlas.setRoot(2));
        Check.refuses("an interview", Check.STATE, () -> atlas.interview(0, 0, 0, 0));
        Check.due("the first sound", atlas.sound(3), 1);
        atlas.setRoot(1);
        Check.due("only the new sound", atlas.expected(1, 0, 0), 4);
        Check.due("the first root stays", atlas.expected(2, 0, 0), Check.number(5, 0));
    }

    @Holds(of = 4, says = "- `word`: 0 to 3")
    static void wordOfRootIsFrom0To3() {
        DialectAtlas atlas = new DialectAtlas();
        for (int word = 0; word < 4; word++) {
            Check.root(atlas, word, word + 1);
        }
        for (int word = 0; word < 4; word++) {
            Check.due("word " + word, atlas.expected(word, 0, 0), word + 2);
        }
    }

    @Holds(of = 4, says = "Returns the form that was the root before; NONE if there was none.")
    static void setRootReturnsTheRootBefore() {
        DialectAtlas atlas = new DialectAtlas();
        Check.root(atlas, 3, 0);
        Check.root(atlas, 2, 6);
        Check.everywhere(atlas, 0, 1, Check.ANY);
        Check.due("the least, as it was", Check.root(atlas, 3, 7, 7, 7, 7, 7, 7, 7, 7), 1);
        Check.due("the greatest", Check.root(atlas, 3, 4, 4), Check.LONGEST);
        Check.due("the third", Check.root(atlas, 3, 4, 4), Check.number(4, 4));
        Check.due("another word's", Check.root(atlas, 2, 4), 7);
    }

    @Holds(of = 4, says = "Returns the form that was the root before; NONE if there was none.")
    static void setRootReturnsNoneAtFirst() {
        DialectAtlas atlas = new DialectAtlas();
        for (int word = 0; word < 4; word++) {
            Check.due("word " + word, Check.root(atlas, word, word), Check.NONE);
        }
    }

    @Holds(of = 4, says = "Throws `IndexOutOfBoundsException` if there is no such word")
    static void setRootRefusesNoSuchWord() {
        DialectAtlas atlas = new DialectAtlas();
        Check.refuses("4, with an empty draft", Check.INDEX, () -> atlas.setRoot(4));
        atlas.sound(0);
        Check.refusesOutside(0, 3, Check.INDEX, atlas::setRoot);
        Check.due("the draft stays", atlas.sound(0), 2);
    }

    @Holds(of = 4, says = "Throws `IllegalStateException` if the draft is empty")
    static void setRootRefusesAnEmptyDraft() {
        DialectAtlas atlas = new DialectAtlas();
        Check.refuses("a new draft", Check.STATE, () -> atlas.setRoot(3));
        Check.root(atlas, 3, 5);
        Check.refuses("after a root", Check.STATE, () -> atlas.setRoot(3));
        Check.enter(atlas, 0, 0, 3, 6);
        Check.refuses("after an interview", Check.STATE, () -> atlas.setRoot(3));
        Check.due("the root stays", atlas.expected(3, 0, 0), 6);
    }

    // ---- promise 5: form

    @Holds(of = 5, says = "Returns the form of an interview.")
    static void formIsThatOfItsInterview() {
        DialectAtlas atlas = new DialectAtlas();
        Check.enter(atlas, 0, 0, 0, 0);
        Check.enter(atlas, 0, 0, 0, 7, 7, 7, 7, 7, 7, 7, 7);
        Check.enter(atlas, 0, 0, 0, 3, 1);
        Check.due("the least", atlas.form(0), 1);
        Check.due("the greatest", atlas.form(1), Check.LONGEST);
        Check.due("another", atlas.form(2), 38);
    }

    @Holds(of = 5, says = "- `interview`: the interview")
    static void interviewOfFormIsAnyFromFirstToLast() {
        DialectAtlas atlas = Check.atlasWith(40);
        for (int i = 0; i < 40; i++) {
            Check.due("form " + i, atlas.form(i), Check.formOf(i));
        }
    }

    @Holds(of = 5, says = "Returns the form; NONE if it is forgotten.")
    static void formIsNoneIfForgotten() {
        DialectAtlas atlas = Check.atlasWith(40);
        atlas.forget(7);
        atlas.forget(0);
        for (int i = 0; i < 40; i++) {
            boolean gone = i % 8 == 7 || i % 8 == 0;
            Check.due("form " + i, atlas.form(i), gone ? Check.NONE : Check.formOf(i));
        }
    }

    @Holds(of = 5, says = "Throws `IndexOutOfBoundsException` if there is no such interview")
    static void formRefusesNoSuchInterview() {
        for (int count : new int[] {0, 1, 32, 40}) {
            DialectAtlas atlas = Check.atlasWith(count);
            Check.refusesOutside(0, count - 1, Check.INDEX, atlas::form);
        }
    }
}
