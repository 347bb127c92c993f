import java.util.ArrayList;
import java.util.Arrays;
import java.util.HashMap;
import java.util.List;
import java.util.Map;

/** 'What it is', and 'Terms' but for its exceptions: a test or more for each sentence. */
public final class TermsTests {
    private static final String CALLS = "An object is used for at most 512 calls after it has been made;"
        + " what later calls answer is free.";
    private static final String RANGES = "There are the places 0 to 9 in a row, the informants 0 to 7,"
        + " the words 0 to 3, the schools 0 to 2, and the sounds 0 to 7.";
    private static final String RULE = "A rule has a sound, what becomes of it (another sound, or LOST),"
        + " what must stand right behind it (a sound, END for the end of the form, or ANY for whatever"
        + " is there, a sound or the end), the first and the last place where it goes, and the first"
        + " year from which it goes.";
    private static final String APPLY = "To apply a rule to a form: each sound of the form that is that"
        + " of the rule, and behind which there is what must stand there, becomes what it says, or"
        + " goes; all at once, by the form as it was.";
    private static final String EXPECTED = "The expected form of a word at a place in a year: the root,"
        + " to which all rules that stand, go at this place, and have a first year that is not later,"
        + " are applied by rising numbers; none without a root.";
    private static final String STEPS = "Two forms are as far from one another as the fewest steps that"
        + " make one the other: each step puts a sound in, takes one out, or puts one in place of another.";
    private static final String FALL = "When an informant is forgotten, rules that rest on interviews of"
        + " this informant rest on them no more; a rule that rested on some interview and rests on none"
        + " by that has fallen, for good.";
    private static final String MOST = "The form of a word at a place is that which most of the"
        + " interviews that are there have for them, whatever the year; of several that of the lowest"
        + " interview; none if there is no interview.";
    private static final String LINE = "Between a place and the next one there is a line for a word, if"
        + " both have a form of it, and these are not the same.";
    private static final String KNOWS = "A school that took a copy knows the interviews that were there"
        + " then; those that are forgotten later it knows until it is told to forget.";
    private static final String QUOTE = "A quote has the number of an interview, and stays; but what it"
        + " quotes is gone when that is forgotten.";

    public static void main(String[] args) {
        Check.runAll(TermsTests.class);
    }

    // ---- what it is

    @Holds(of = Holds.WHAT_IT_IS, says = CALLS)
    static void theLastCallIsAnsweredAsAnyOther() {
        DialectAtlas atlas = Check.atlasWith(40);
        int calls = 3 * 40;
        Check.root(atlas, 3, 7, 7);
        Check.everywhere(atlas, 7, 4, Check.END);
        calls += 4;
        while (calls < 511) {
            Check.due("call " + calls, atlas.far(39), 0);
            calls++;
        }
        Check.due("the 512th call", atlas.far(39), 0);
    }

    @Holds(of = Holds.WHAT_IT_IS, says = CALLS)
    static void everySecondCallCanBeARoot() {
        DialectAtlas atlas = new DialectAtlas();
        int before = Check.NONE;
        for (int i = 0; i < 256; i++) {
            Check.due("the sound " + i, atlas.sound(i % 7), 1);
            Check.due("the root " + i, atlas.setRoot(2), before);
            before = i % 7 + 1;
        }
    }

    @Holds(of = Holds.WHAT_IT_IS, says = CALLS)
    static void refusedCallsUseNothingUp() {
        DialectAtlas atlas = new DialectAtlas();
        for (int i = 0; i < 102; i++) {
            Check.refuses("sound", Check.INDEX, () -> atlas.sound(8));
            Check.refuses("interview", Check.STATE, () -> atlas.interview(0, 0, 0, 0));
            Check.refuses("rule", Check.ARGUMENT, () -> atlas.rule(0, 0, 0, 0, 0, 0));
            Check.refuses("quote", Check.INDEX, () -> atlas.quote(0));
            Check.refuses("expected", Check.ARGUMENT, () -> atlas.expected(0, 0, 301));
        }
        Check.due("the 511th call", atlas.sound(5), 1);
        Check.due("the 512th call", atlas.interview(0, 0, 0, 0), 0);
    }

    // ---- ranges

    @Holds(of = Holds.TERMS, says = "No line of a map rests on one who is forgotten.")
    static void noLineRestsOnTheForgotten() {
        for (int place = 0; place < 9; place++) {
            for (int informant = 0; informant < 8; informant++) {
                DialectAtlas atlas = new DialectAtlas();
                Check.enter(atlas, (informant + 1) % 8, place, 0, 1);
                Check.enter(atlas, informant, place + 1, 0, 2);
                Check.dueLines("between two", atlas, 0, 1 << place);
                atlas.forget(informant);
                Check.dueLines("one being forgotten", atlas, 0, 0);
            }
        }
    }

    @Holds(of = Holds.TERMS, says = RANGES)
    static void placesStandInARow() {
        for (int place = 0; place < 10; place++) {
            DialectAtlas atlas = new DialectAtlas();
            Check.enter(atlas, 0, place, 0, 5);
            for (int other = 0; other < 10; other++) {
                Check.due("formAt " + other, atlas.formAt(0, other), other == place ? 6 : Check.NONE);
            }
        }
    }

    @Holds(of = Holds.TERMS, says = RANGES)
    static void theRowOfPlacesHasTwoEnds() {
        for (int one = 0; one < 10; one++) {
            for (int other = one + 1; other < 10; other++) {
                DialectAtlas atlas = new DialectAtlas();
                Check.enter(atlas, 0, one, 0, 5);
                Check.enter(atlas, 0, other, 0, 6);
                int want = other == one + 1 ? 1 << one : 0;
                Check.dueLines("places " + one + " and " + other, atlas, 0, want);
            }
        }
    }

    @Holds(of = Holds.TERMS, says = RANGES)
    static void eachInformantIsAnother() {
        for (int informant = 0; informant < 8; informant++) {
            DialectAtlas atlas = Check.atlasWith(8);
            Check.due("forget " + informant, atlas.forget(informant), 1);
            for (int i = 0; i < 8; i++) {
                Check.due("form " + i, atlas.form(i), i == informant ? Check.NONE : Check.formOf(i));
            }
        }
    }

    @Holds(of = Holds.TERMS, says = RANGES)
    static void eachWordIsAnother() {
        for (int word = 0; word < 4; word++) {
            DialectAtlas atlas = new DialectAtlas();
            Check.root(atlas, word, 4);
            Check.enter(atlas, 0, 3, word, 1);
            Check.enter(atlas, 0, 4, word, 2);
            for (int other = 0; other < 4; other++) {
                boolean same = other == word;
                Check.due("expected", atlas.expected(other, 0, 0), same ? 5 : Check.NONE);
                Check.due("formAt", atlas.formAt(other, 3), same ? 2 : Check.NONE);
                Check.dueLines("word " + other, atlas, other, same ? 1 << 3 : 0);
            }
        }
    }

    @Holds(of = Holds.TERMS, says = RANGES)
    static void eachSchoolIsAnother() {
        for (int school = 0; school < 3; school++) {
            DialectAtlas atlas = Check.atlasWith(2);
            atlas.copy(school);
            atlas.forget(0);
            for (int other = 0; other < 3; other++) {
                Check.due("owed " + other, atlas.owed(other), other == school ? 1 : 0);
            }
        }
    }

    @Holds(of = Holds.TERMS, says = RANGES)
    static void eachSoundIsAnother() {
        DialectAtlas atlas = new DialectAtlas();
        for (int sound = 0; sound < 8; sound++) {
            Check.due("its form", atlas.form(Check.enter(atlas, 0, 0, 0, sound)), sound + 1);
            for (int other = 0; other < 8; other++) {
                int[] told = Check.form(other);
                Check.due("how far", Check.farFrom(Check.form(sound), told), other == sound ? 0 : 1);
            }
        }
    }

    @Holds(of = Holds.TERMS, says = "Years are 0 to 300.")
    static void yearsHaveALeastAndAMost() {
        DialectAtlas atlas = new DialectAtlas();
        Check.root(atlas, 0, 0);
        atlas.rule(0, 1, Check.ANY, 0, 9, 300);
        Check.due("in the year 0", atlas.far(Check.enterIn(0, atlas, 0, 0, 0, 1)), 1);
        Check.due("in the year 299", atlas.far(Check.enterIn(299, atlas, 0, 0, 0, 1)), 1);
        Check.due("in the year 300", atlas.far(Check.enterIn(300, atlas, 0, 0, 0, 1)), 0);
        Check.due("expected in the year 0", atlas.expected(0, 0, 0), 1);
        Check.due("expected in the year 300", atlas.expected(0, 0, 300), 2);
    }

    // ---- forms

    @Holds(of = Holds.TERMS, says = "A form is a row of 1 to 8 sounds.")
    static void aFormHasOneToEightSounds() {
        DialectAtlas atlas = new DialectAtlas();
        Check.refuses("a form of no sounds", Check.STATE, () -> atlas.interview(0, 0, 0, 0));
        Check.refuses("a root of no sounds", Check.STATE, () -> atlas.setRoot(0));
        int[] sounds = {};
        for (int length = 1; length <= 8; length++) {
            sounds = Arrays.copyOf(sounds, length);
            sounds[length - 1] = length % 8;
            int told = Check.enter(atlas, 0, 0, 0, sounds);
            Check.due("so many sounds: " + length, atlas.form(told), Check.number(sounds));
        }
        Check.due("eight sounds", Check.draft(atlas, 0, 0, 0, 0, 0, 0, 0, 0), 8);
        Check.refuses("a ninth sound", Check.STATE, () -> atlas.sound(0));
    }

    @Holds(of = Holds.TERMS, says = "It is told as a number: beginning with 0, for each sound from the"
        + " first one on the number times 9, and the sound, and 1, together.")
    static void aFormIsToldAsANumber() {
        DialectAtlas atlas = new DialectAtlas();
        Check.due("0", atlas.form(Check.enter(atlas, 0, 0, 0, 0)), 1);
        Check.due("7", atlas.form(Check.enter(atlas, 0, 0, 0, 7)), 8);
        Check.due("0 0", atlas.form(Check.enter(atlas, 0, 0, 0, 0, 0)), 10);
        Check.due("0 1", atlas.form(Check.enter(atlas, 0, 0, 0, 0, 1)), 11);
        Check.due("1 0", atlas.form(Check.enter(atlas, 0, 0, 0, 1, 0)), 19);
        Check.due("7 7", atlas.form(Check.enter(atlas, 0, 0, 0, 7, 7)), 80);
        Check.due("0 0 0", atlas.form(Check.enter(atlas, 0, 0, 0, 0, 0, 0)), 91);
        Check.due("eight 0", atlas.form(Check.enter(atlas, 0, 0, 0, 0, 0, 0, 0, 0, 0, 0, 0)), 5380840);
        Check.due("eight 7", atlas.form(Check.enter(atlas, 0, 0, 0, 7, 7, 7, 7, 7, 7, 7, 7)), 43046720);
    }

    @Holds(of = Holds.TERMS, says = "There is a draft, a row of sounds that is empty at first.")
    static void theDraftIsEmptyAtFirst() {
        DialectAtlas atlas = new DialectAtlas();
        Check.refuses("an interview at first", Check.STATE, () -> atlas.interview(0, 0, 0, 0));
        Check.refuses("a root at first", Check.STATE, () -> atlas.setRoot(0));
        Check.due("the first sound", atlas.sound(3), 1);
        Check.due("the form", atlas.form(atlas.interview(0, 0, 0, 0)), 4);
    }

    // ---- interviews

    @Holds(of = Holds.TERMS, says = "There can be 40, numbered from 0; an interview has an informant, a"
        + " place, a year, a word, and the form of that word.")
    static void thereCanBeFortyInterviews() {
        DialectAtlas atlas = new DialectAtlas();
        for (int i = 0; i < 40; i++) {
            Check.due("interview", Check.enter(atlas, i % 8, i % 10, i % 4, i % 8, i / 8), i);
        }
        atlas.sound(0);
        Check.refuses("one more", Check.STATE, () -> atlas.interview(0, 0, 0, 0));
        for (int i = 0; i < 40; i++) {
            Check.due("form " + i, atlas.form(i), Check.formOf(i));
        }
        Check.refuses("form 40", Check.INDEX, () -> atlas.form(40));
        Check.due("all are there", atlas.copy(0), 40);
    }

    @Holds(of = Holds.TERMS, says = "There can be 40, numbered from 0; an interview has an informant, a"
        + " place, a year, a word, and the form of that word.")
    static void anInterviewHasWhatItWasEnteredWith() {
        DialectAtlas atlas = new DialectAtlas();
        Check.root(atlas, 2, 0);
        atlas.rule(0, 6, Check.ANY, 5, 5, 77);
        Check.enterIn(77, atlas, 3, 5, 2, 6);
        Check.enterIn(76, atlas, 4, 5, 2, 6);
        Check.enterIn(77, atlas, 4, 4, 2, 6);
        Check.due("its form", atlas.form(0), 7);
        Check.due("its word and its place", atlas.formAt(2, 5), 7);
        Check.due("its place and its year", atlas.far(0), 0);
        Check.due("another year", atlas.far(1), 1);
        Check.due("another place", atlas.far(2), 1);
        Check.due("its informant", atlas.forget(3), 1);
        Check.due("that was it", atlas.form(0), Check.NONE);
    }

    @Holds(of = Holds.TERMS, says = "It is there, or forgotten.")
    static void anInterviewIsThereOrForgotten() {
        DialectAtlas atlas = Check.atlasWith(3);
        Check.due("there", atlas.form(1), Check.formOf(1));
        atlas.forget(1);
        Check.due("forgotten", atlas.form(1), Check.NONE);
        Check.enter(atlas, 1, 1, 1, 1, 0);
        Check.due("forgotten, whatever is told later", atlas.form(1), Check.NONE);
        Check.due("its number is not given again", atlas.form(3), Check.formOf(1));
    }

    // ---- roots and rules

    @Holds(of = Holds.TERMS, says = "A word can have a root, which is a form.")
    static void aWordCanHaveARoot() {
        DialectAtlas atlas = new DialectAtlas();
        Check.root(atlas, 1, 0);
        Check.root(atlas, 2, 7, 7, 7, 7, 7, 7, 7, 7);
        Check.due("a word without a root", atlas.expected(0, 0, 0), Check.NONE);
        Check.due("the least root", atlas.expected(1, 0, 0), 1);
        Check.due("the greatest root", atlas.expected(2, 0, 0), Check.LONGEST);
    }

    @Holds(of = Holds.TERMS, says = "There can be 20 rules, numbered from 0.")
    static void thereCanBeTwentyRules() {
        DialectAtlas atlas = new DialectAtlas();
        Check.root(atlas, 0, 0);
        for (int i = 0; i < 20; i++) {
            Check.due("rule", Check.everywhere(atlas, i % 8, (i + 1) % 8, Check.ANY), i);
        }
        Check.refuses("one more", Check.STATE, () -> Check.everywhere(atlas, 4, 5, Check.ANY));
        Check.due("the last one stands", atlas.stands(19), true);
        Check.refuses("stands 20", Check.INDEX, () -> atlas.stands(20) ? 1 : 0);
        Check.due("all twenty are applied", atlas.expected(0, 0, 0), Check.number(20 % 8));
    }

    @Holds(of = Holds.TERMS, says = RULE)
    static void aSoundBecomesAnother() {
        for (int sound = 0; sound < 8; sound++) {
            for (int to = 0; to < 8; to++) {
                if (to != sound) {
                    Check.due("rule", Check.applied(sound, to, Check.ANY, sound), to + 1);
                    Check.due("rule", Check.applied(sound, to, Check.ANY, to), to + 1);
                }
            }
        }
    }

    @Holds(of = Holds.TERMS, says = RULE)
    static void aSoundIsLost() {
        for (int sound = 0; sound < 8; sound++) {
            int other = (sound + 1) % 8;
            int got = Check.applied(sound, Check.LOST, Check.ANY, other, sound, other);
            Check.due("rule", got, Check.number(other, other));
        }
    }

    @Holds(of = Holds.TERMS, says = RULE)
    static void aSoundMustStandRightBehind() {
        for (int behind = 0; behind < 8; behind++) {
            for (int there = 0; there < 8; there++) {
                // The 4 comes last as well: behind it there is no sound at all.
                int want = behind == there ? Check.number(5, there, 6) : Check.number(4, there, 6);
                if (there != 4 && behind != 6) {
                    Check.due("rule", Check.applied(4, 5, behind, 4, there, 6), want);
                }
                Check.due("at the end", Check.applied(4, 5, behind, 4), 5);
            }
        }
        Check.due("not two behind", Check.applied(4, 5, 6, 4, 1, 6), Check.number(4, 1, 6));
        Check.due("not before", Check.applied(4, 5, 6, 6, 4, 1), Check.number(6, 4, 1));
    }

    @Holds(of = Holds.TERMS, says = RULE)
    static void endIsTheEndOfTheForm() {
        Check.due("the last one", Check.applied(4, 5, Check.END, 4, 7, 4), Check.number(4, 7, 5));
        Check.due("the only one", Check.applied(4, 5, Check.END, 4), Check.number(5));
        Check.due("not at the end", Check.applied(4, 5, Check.END, 4, 7), Check.number(4, 7));
        Check.due("not before 0", Check.applied(4, 5, Check.END, 4, 0), Check.number(4, 0));
        Check.due("the eighth one", Check.applied(4, 5, Check.END, 4, 4, 4, 4, 4, 4, 4, 4),
            Check.number(4, 4, 4, 4, 4, 4, 4, 5));
    }

    @Holds(of = Holds.TERMS, says = RULE)
    static void anyIsASoundOrTheEnd() {
        for (int there = 0; there < 8; there++) {
            int want = there == 4 ? Check.number(5, 5) : Check.number(5, there);
            Check.due("before a sound", Check.applied(4, 5, Check.ANY, 4, there), want);
        }
        Check.due("at the end", Check.applied(4, 5, Check.ANY, 3, 4), Check.number(3, 5));
    }

    @Holds(of = Holds.TERMS, says = RULE)
    static void aRuleGoesFromItsFirstToItsLastPlace() {
        for (int first = 0; first < 10; first++) {
            for (int last = first; last < 10; last++) {
                DialectAtlas atlas = new DialectAtlas();
                Check.root(atlas, 0, 0);
                atlas.rule(0, 1, Check.ANY, first, last, 0);
                for (int place = 0; place < 10; place++) {
                    int want = place < first || place > last ? 1 : 2;
                    Check.due("from " + first + " to " + last, atlas.expected(0, place, 0), want);
                }
            }
        }
    }

    @Holds(of = Holds.TERMS, says = RULE)
    static void aRuleGoesFromItsFirstYearOn() {
        for (int year : new int[] {0, 1, 150, 299, 300}) {
            DialectAtlas atlas = new DialectAtlas();
            Check.root(atlas, 0, 0);
            atlas.rule(0, 1, Check.ANY, 0, 9, year);
            Check.due("in its first year", atlas.expected(0, 0, year), 2);
            Check.due("in the last year", atlas.expected(0, 0, 300), 2);
            if (year > 0) {
                Check.due("the year before", atlas.expected(0, 0, year - 1), 1);
                Check.due("in the year 0", atlas.expected(0, 0, 0), 1);
            }
        }
    }

    @Holds(of = Holds.TERMS, says = "It stands, or has fallen.")
    static void aRuleStandsOrHasFallen() {
        DialectAtlas atlas = Check.atlasWith(1);
        Check.everywhere(atlas, 0, 1, Check.ANY);
        atlas.rest(0, 0);
        Check.due("it stands", atlas.stands(0), true);
        atlas.forget(0);
        Check.due("it has fallen", atlas.stands(0), false);
    }

    @Holds(of = Holds.TERMS, says = APPLY)
    static void eachSoundThatIsMeantBecomesIt() {
        Check.due("all eight", Check.applied(3, 6, Check.ANY, 3, 3, 3, 3, 3, 3, 3, 3),
            Check.number(6, 6, 6, 6, 6, 6, 6, 6));
        Check.due("the first, one amid, the last", Check.applied(3, 6, Check.ANY, 3, 1, 3, 2, 3),
            Check.number(6, 1, 6, 2, 6));
        Check.due("those before 1", Check.applied(3, 6, 1, 3, 1, 3, 2, 3, 1), Check.number(6, 1, 3, 2, 6, 1));
    }

    @Holds(of = Holds.TERMS, says = APPLY)
    static void eachSoundThatIsMeantGoes() {
        Check.due("the first, one amid, the last", Check.applied(3, Check.LOST, Check.ANY, 3, 1, 3, 2, 3),
            Check.number(1, 2));
        Check.due("seven of eight", Check.applied(3, Check.LOST, Check.ANY, 3, 3, 3, 3, 0, 3, 3, 3),
            Check.number(0));
        Check.due("none is meant", Check.applied(3, Check.LOST, Check.ANY, 0, 1, 2), Check.number(0, 1, 2));
    }

    @Holds(of = Holds.TERMS, says = APPLY)
    static void allBecomeItAtOnce() {
        Check.due("what a sound becomes is not behind the one before yet",
            Check.applied(2, 3, 3, 2, 2, 2, 3), Check.number(2, 2, 3, 3));
        Check.due("what a sound was is behind the one before still",
            Check.applied(2, 3, 2, 2, 2, 2, 3), Check.number(3, 3, 2, 3));
    }

    @Holds(of = Holds.TERMS, says = APPLY)
    static void allGoAtOnce() {
        Check.due("the end is behind the last one alone",
            Check.applied(2, Check.LOST, Check.END, 2, 2, 2), Check.number(2, 2));
        Check.due("those go behind which 2 stood",
            Check.applied(2, Check.LOST, 2, 2, 2, 2, 3), Check.number(2, 3));
        Check.due("3 is behind the last 2 alone",
            Check.applied(2, Check.LOST, 3, 2, 2, 2, 3), Check.number(2, 2, 3));
    }

    @Holds(of = Holds.TERMS, says = "If all sounds would go, the form stays as it was.")
    static void aFormOfWhichAllWouldGoStays() {
        Check.due("one sound", Check.applied(7, Check.LOST, Check.ANY, 7), 8);
        Check.due("one sound at the end", Check.applied(0, Check.LOST, Check.END, 0), 1);
        Check.due("two sounds", Check.applied(0, Check.LOST, Check.ANY, 0, 0), 10);
        Check.due("eight sounds", Check.applied(7, Check.LOST, Check.ANY, 7, 7, 7, 7, 7, 7, 7, 7),
            Check.LONGEST);
        Check.due("the first sound is left", Check.applied(0, Check.LOST, Check.ANY, 1, 0, 0), 2);
        Check.due("the last sound is left", Check.applied(0, Check.LOST, Check.ANY, 0, 0, 1), 2);
    }

    @Holds(of = Holds.TERMS, says = "If all sounds would go, the form stays as it was.")
    static void aFormThatStayedIsChangedByLaterRules() {
        DialectAtlas atlas = new DialectAtlas();
        Check.root(atlas, 0, 4, 4);
        Check.everywhere(atlas, 4, Check.LOST, Check.ANY);
        Check.due("it stays", atlas.expected(0, 0, 0), Check.number(4, 4));
        Check.everywhere(atlas, 4, 5, Check.END);
        Check.due("a later rule", atlas.expected(0, 0, 0), Check.number(4, 5));
        Check.everywhere(atlas, 4, Check.LOST, Check.ANY);
        Check.due("not all would go now", atlas.expected(0, 0, 0), Check.number(5));
    }

    @Holds(of = Holds.TERMS, says = EXPECTED)
    static void rulesThatHaveFallenAreNotApplied() {
        DialectAtlas atlas = Check.atlasWith(1);
        Check.root(atlas, 0, 0);
        Check.everywhere(atlas, 0, 1, Check.ANY);
        Check.everywhere(atlas, 1, 2, Check.ANY);
        atlas.rest(1, 0);
        Check.due("both", atlas.expected(0, 0, 0), 3);
        atlas.forget(0);
        Check.due("the one that stands", atlas.expected(0, 0, 0), 2);
    }

    @Holds(of = Holds.TERMS, says = EXPECTED)
    static void rulesOfOtherPlacesOrLaterYearsAreNotApplied() {
        DialectAtlas atlas = new DialectAtlas();
        Check.root(atlas, 0, 0, 1, 2);
        atlas.rule(0, 4, Check.ANY, 3, 5, 100);
        atlas.rule(1, 5, Check.ANY, 5, 9, 100);
        atlas.rule(2, 6, Check.ANY, 5, 5, 101);
        Check.due("its last place, its first place", atlas.expected(0, 5, 100), Check.number(4, 5, 2));
        Check.due("the year after", atlas.expected(0, 5, 101), Check.number(4, 5, 6));
        Check.due("the year before", atlas.expected(0, 5, 99), Check.number(0, 1, 2));
        Check.due("the place before", atlas.expected(0, 4, 101), Check.number(4, 1, 2));
        Check.due("the place behind", atlas.expected(0, 6, 101), Check.number(0, 5, 2));
    }

    @Holds(of = Holds.TERMS, says = EXPECTED)
    static void rulesAreAppliedByRisingNumbers() {
        DialectAtlas atlas = new DialectAtlas();
        Check.root(atlas, 0, 0);
        atlas.rule(1, 2, Check.ANY, 0, 9, 0);
        atlas.rule(0, 1, Check.ANY, 0, 9, 200);
        Check.due("the lower one does not come again", atlas.expected(0, 0, 200), 2);
        atlas.rule(1, 3, Check.ANY, 0, 9, 0);
        Check.due("by numbers, not by years", atlas.expected(0, 0, 200), 4);
        atlas.rule(3, 0, Check.ANY, 0, 9, 100);
        Check.due("no rule comes twice", atlas.expected(0, 0, 200), 1);
    }

    @Holds(of = Holds.TERMS, says = EXPECTED)
    static void thereIsNoneWithoutARoot() {
        DialectAtlas atlas = Check.atlasWith(4);
        Check.everywhere(atlas, 0, 1, Check.ANY);
        for (int word = 0; word < 4; word++) {
            Check.due("expected", atlas.expected(word, word, 300), Check.NONE);
            Check.due("far", atlas.far(word), Check.NONE);
        }
    }

    // ---- steps

    @Holds(of = Holds.TERMS, says = STEPS)
    static void aStepPutsASoundIn() {
        Check.due("at the front", Check.farFrom(Check.form(1, 2), 0, 1, 2), 1);
        Check.due("amid", Check.farFrom(Check.form(1, 2), 1, 0, 2), 1);
        Check.due("at the end", Check.farFrom(Check.form(1, 2), 1, 2, 0), 1);
        Check.due("seven", Check.farFrom(Check.form(3), 3, 3, 3, 3, 3, 3, 3, 3), 7);
        Check.due("six", Check.farFrom(Check.form(0, 7), 1, 0, 2, 3, 4, 5, 6, 7), 6);
    }

    @Holds(of = Holds.TERMS, says = STEPS)
    static void aStepTakesASoundOut() {
        Check.due("at the front", Check.farFrom(Check.form(0, 1, 2), 1, 2), 1);
        Check.due("amid", Check.farFrom(Check.form(1, 0, 2), 1, 2), 1);
        Check.due("at the end", Check.farFrom(Check.form(1, 2, 0), 1, 2), 1);
        Check.due("seven", Check.farFrom(Check.form(3, 3, 3, 3, 3, 3, 3, 3), 3), 7);
        Check.due("five", Check.farFrom(Check.form(0, 1, 0, 2, 0, 3, 0, 0), 1, 2, 3), 5);
    }

    @Holds(of = Holds.TERMS, says = STEPS)
    static void aStepPutsASoundInPlaceOfAnother() {
        Check.due("the first", Check.farFrom(Check.form(1, 2, 3), 0, 2, 3), 1);
        Check.due("one amid", Check.farFrom(Check.form(1, 2, 3), 1, 0, 3), 1);
        Check.due("the last", Check.farFrom(Check.form(1, 2, 3), 1, 2, 0), 1);
        Check.due("all eight", Check.farFrom(Check.form(7, 7, 7, 7, 7, 7, 7, 7), 6, 6, 6, 6, 6, 6, 6, 6), 8);
    }

    @Holds(of = Holds.TERMS, says = STEPS)
    static void theFewestStepsCount() {
        Check.due("none", Check.farFrom(Check.form(1, 2, 3), 1, 2, 3), 0);
        Check.due("none of eight", Check.farFrom(Check.form(0, 1, 2, 3, 4, 5, 6, 7), 0, 1, 2, 3, 4, 5, 6, 7), 0);
        Check.due("moved by one", Check.farFrom(Check.form(1, 2, 3, 4, 5, 6, 7, 0), 0, 1, 2, 3, 4, 5, 6, 7), 2);
        Check.due("moved back by one",
            Check.farFrom(Check.form(0, 1, 2, 3, 4, 5, 6, 7), 1, 2, 3, 4, 5, 6, 7, 0), 2);
        Check.due("turned round", Check.farFrom(Check.form(3, 2, 1), 1, 2, 3), 2);
        Check.due("two that change places", Check.farFrom(Check.form(0, 1, 2, 3), 0, 2, 1, 3), 2);
        Check.due("one taken out, one put in its place", Check.farFrom(Check.form(4, 0, 1), 0, 2), 2);
        Check.due("one to eight", Check.farFrom(Check.form(6), 7, 7, 7, 7, 7, 7, 7, 7), 8);
        Check.due("eight to one", Check.farFrom(Check.form(7, 7, 7, 7, 7, 7, 7, 7), 6), 8);
        Check.due("four", Check.farFrom(Check.form(0, 1, 0, 1, 0, 1, 0, 1), 1, 1, 1, 1, 1, 1, 1, 1), 4);
    }

    @Holds(of = Holds.TERMS, says = STEPS)
    static void noFewerStepsAreFoundByTryingAll() {
        List<String> rows = rowsOf(4);
        for (String root : rows) {
            Map<String, Integer> steps = stepsByTryingAll(root);
            for (String told : rows) {
                int far = Check.farFrom(soundsOf(root), soundsOf(told));
                Check.due("from " + root + " to " + told, far, steps.get(told));
            }
        }
    }

    /** All rows of 1 to so many of the sounds 0 and 1. */
    private static List<String> rowsOf(int most) {
        List<String> rows = new ArrayList<>(List.of("0", "1"));
        for (int i = 0; rows.get(i).length() < most; i++) {
            rows.add(rows.get(i) + "0");
            rows.add(rows.get(i) + "1");
        }
        return rows;
    }

    private static int[] soundsOf(String row) {
        return row.chars().map(sound -> sound - '0').toArray();
    }

    /** How many steps lead from a row to each other one: those of one step come first, then two, .. */
    private static Map<String, Integer> stepsByTryingAll(String root) {
        Map<String, Integer> steps = new HashMap<>(Map.of(root, 0));
        List<String> reached = new ArrayList<>(List.of(root));
        for (int i = 0; i < reached.size(); i++) {
            String row = reached.get(i);
            for (String next : oneStepFrom(row)) {
                if (next.length() <= 5 && !steps.containsKey(next)) {
                    steps.put(next, steps.get(row) + 1);
                    reached.add(next);
                }
            }
        }
        return steps;
    }

    private static List<String> oneStepFrom(String row) {
        List<String> next = new ArrayList<>();
        for (int at = 0; at <= row.length(); at++) {
            String ahead = row.substring(0, at);
            String rest = row.substring(at);
            next.addAll(List.of(ahead + "0" + rest, ahead + "1" + rest));
            if (!rest.isEmpty()) {
                String behind = rest.substring(1);
                next.addAll(List.of(ahead + behind, ahead + "0" + behind, ahead + "1" + behind));
            }
        }
        return next;
    }

    // ---- what rules rest on

    @Holds(of = Holds.TERMS, says = "A rule can be told to rest on interviews that are there.")
    static void aRuleRestsOnInterviewsThatAreThere() {
        DialectAtlas atlas = Check.atlasWith(3);
        Check.everywhere(atlas, 0, 1, Check.ANY);
        atlas.forget(1);
        Check.due("there", atlas.rest(0, 0), 1);
        Check.refuses("forgotten", Check.STATE, () -> atlas.rest(0, 1));
        Check.due("there", atlas.rest(0, 2), 2);
    }

    @Holds(of = Holds.TERMS, says = FALL)
    static void rulesRestOnForgottenInterviewsNoMore() {
        DialectAtlas atlas = Check.atlasWith(18);
        Check.everywhere(atlas, 0, 1, Check.ANY);
        // Of the informants 0 and 1, by turns; the last one is of the informant 2.
        for (int interview : new int[] {0, 1, 8, 9, 16, 17}) {
            atlas.rest(0, interview);
        }
        atlas.forget(0);
        Check.due("three are left, and one more", atlas.rest(0, 2), 4);
        atlas.forget(1);
        Check.due("one is left, and one more", atlas.rest(0, 10), 2);
    }

    @Holds(of = Holds.TERMS, says = FALL)
    static void aRuleThatRestsOnNoneAnyMoreHasFallen() {
        DialectAtlas atlas = Check.atlasWith(10);
        for (int i = 0; i < 3; i++) {
            Check.everywhere(atlas, 0, 1, Check.ANY);
        }
        atlas.rest(0, 0);
        atlas.rest(0, 8);
        atlas.rest(1, 0);
        atlas.rest(1, 1);
        atlas.rest(2, 2);
        atlas.forget(0);
        Check.due("it rested on two of this one", atlas.stands(0), false);
        Check.due("it rests on another's, too", atlas.stands(1), true);
        Check.due("it rests on another's", atlas.stands(2), true);
        atlas.forget(1);
        Check.due("it has lost both by turns", atlas.stands(1), false);
        Check.due("it rests on another's", atlas.stands(2), true);
    }

    @Holds(of = Holds.TERMS, says = FALL)
    static void aRuleThatRestedOnNoneStands() {
        DialectAtlas atlas = Check.atlasWith(40);
        Check.everywhere(atlas, 0, 1, Check.ANY);
        for (int informant = 0; informant < 8; informant++) {
            atlas.forget(informant);
            Check.due("after " + informant, atlas.stands(0), true);
        }
    }

    @Holds(of = Holds.TERMS, says = FALL)
    static void aRuleThatHasFallenStaysSo() {
        DialectAtlas atlas = Check.atlasWith(1);
        Check.root(atlas, 0, 0);
        Check.everywhere(atlas, 0, 1, Check.ANY);
        atlas.rest(0, 0);
        atlas.forget(0);
        Check.enter(atlas, 0, 0, 0, 0, 0);
        Check.due("the informant tells the same again", atlas.stands(0), false);
        Check.refuses("it cannot rest on that", Check.STATE, () -> atlas.rest(0, 1));
        atlas.forget(0);
        atlas.forget(1);
        Check.due("others are forgotten", atlas.stands(0), false);
        Check.due("it is not applied", atlas.expected(0, 0, 300), 1);
    }

    // ---- maps

    @Holds(of = Holds.TERMS, says = MOST)
    static void mostInterviewsGiveTheForm() {
        DialectAtlas atlas = new DialectAtlas();
        Check.enter(atlas, 0, 4, 1, 5);
        Check.due("the one", atlas.formAt(1, 4), 6);
        Check.enter(atlas, 1, 4, 1, 3);
        Check.enter(atlas, 2, 4, 1, 3);
        Check.due("two of three", atlas.formAt(1, 4), 4);
        Check.enter(atlas, 3, 4, 1, 7);
        Check.enter(atlas, 4, 4, 1, 7);
        Check.enter(atlas, 5, 4, 1, 7);
        Check.due("three of six", atlas.formAt(1, 4), 8);
        Check.enter(atlas, 0, 4, 1, 5);
        Check.enter(atlas, 0, 4, 1, 5);
        Check.enter(atlas, 0, 4, 1, 5);
        Check.due("four of nine", atlas.formAt(1, 4), 6);
    }

    @Holds(of = Holds.TERMS, says = MOST)
    static void otherWordsAndPlacesDoNotCount() {
        DialectAtlas atlas = new DialectAtlas();
        Check.enter(atlas, 0, 4, 1, 5);
        for (int i = 0; i < 3; i++) {
            Check.enter(atlas, i, 4, 2, 3);
            Check.enter(atlas, i, 5, 1, 3);
            Check.enter(atlas, i, 3, 1, 3);
        }
        Check.due("its own", atlas.formAt(1, 4), 6);
    }

    @Holds(of = Holds.TERMS, says = MOST)
    static void forgottenInterviewsDoNotCount() {
        DialectAtlas atlas = new DialectAtlas();
        Check.enter(atlas, 0, 4, 1, 5);
        Check.enter(atlas, 0, 4, 1, 5);
        Check.enter(atlas, 1, 4, 1, 3);
        atlas.forget(0);
        Check.due("the one that is there", atlas.formAt(1, 4), 4);
    }

    @Holds(of = Holds.TERMS, says = MOST)
    static void theYearDoesNotMatter() {
        DialectAtlas atlas = new DialectAtlas();
        Check.enterIn(300, atlas, 0, 4, 1, 5);
        Check.enterIn(0, atlas, 1, 4, 1, 3);
        Check.due("the lower one of the later year", atlas.formAt(1, 4), 6);
        Check.enterIn(150, atlas, 2, 4, 1, 3);
        Check.due("two of different years", atlas.formAt(1, 4), 4);
    }

    @Holds(of = Holds.TERMS, says = MOST)
    static void ofSeveralTheLowestInterviewDecides() {
        DialectAtlas atlas = new DialectAtlas();
        Check.enter(atlas, 0, 4, 1, 5);
        Check.enter(atlas, 1, 4, 1, 3);
        Check.due("one and one", atlas.formAt(1, 4), 6);
        Check.enter(atlas, 2, 4, 1, 3);
        Check.enter(atlas, 3, 4, 1, 5);
        Check.due("two and two", atlas.formAt(1, 4), 6);
        Check.enter(atlas, 3, 4, 1, 7);
        Check.enter(atlas, 4, 4, 1, 7);
        Check.due("two and two and two", atlas.formAt(1, 4), 6);
    }

    @Holds(of = Holds.TERMS, says = MOST)
    static void theLowestInterviewIsOneOfTheMost() {
        DialectAtlas atlas = new DialectAtlas();
        Check.enter(atlas, 0, 4, 1, 0);
        Check.enter(atlas, 1, 4, 1, 5);
        Check.enter(atlas, 2, 4, 1, 3);
        Check.enter(atlas, 2, 4, 1, 3);
        Check.enter(atlas, 1, 4, 1, 5);
        Check.due("the lowest of all has fewer", atlas.formAt(1, 4), 6);
    }

    @Holds(of = Holds.TERMS, says = MOST)
    static void theLowestInterviewIsOneThatIsThere() {
        DialectAtlas atlas = new DialectAtlas();
        Check.enter(atlas, 0, 4, 1, 5);
        Check.enter(atlas, 1, 4, 1, 3);
        Check.enter(atlas, 2, 4, 1, 5);
        Check.due("two and one", atlas.formAt(1, 4), 6);
        atlas.forget(0);
        Check.due("one and one", atlas.formAt(1, 4), 4);
    }

    @Holds(of = Holds.TERMS, says = MOST)
    static void thereIsNoFormWithoutInterviews() {
        DialectAtlas atlas = new DialectAtlas();
        Check.root(atlas, 1, 5);
        Check.due("a root is no interview", atlas.formAt(1, 4), Check.NONE);
        Check.enter(atlas, 0, 4, 1, 5);
        atlas.forget(0);
        Check.due("all are forgotten", atlas.formAt(1, 4), Check.NONE);
    }

    @Holds(of = Holds.TERMS, says = LINE)
    static void aLineNeedsFormsOnBothSides() {
        DialectAtlas atlas = new DialectAtlas();
        Check.enter(atlas, 0, 4, 1, 5);
        Check.dueLines("none behind, none before", atlas, 1, 0);
        Check.enter(atlas, 0, 6, 1, 3);
        Check.dueLines("a gap", atlas, 1, 0);
        Check.enter(atlas, 0, 5, 2, 3);
        Check.dueLines("another word there", atlas, 1, 0);
        Check.enter(atlas, 1, 5, 1, 3);
        Check.dueLines("no gap", atlas, 1, 1 << 4);
    }

    @Holds(of = Holds.TERMS, says = LINE)
    static void aLineNeedsTwoForms() {
        DialectAtlas atlas = new DialectAtlas();
        Check.enter(atlas, 0, 4, 1, 5, 5);
        Check.enter(atlas, 1, 5, 1, 5, 5);
        Check.dueLines("the same form", atlas, 1, 0);
        Check.enter(atlas, 1, 6, 1, 5);
        Check.dueLines("a longer form", atlas, 1, 1 << 5);
        Check.enter(atlas, 1, 7, 1, 0, 5);
        Check.dueLines("a sound 0 in front", atlas, 1, 3 << 5);
    }

    // ---- forgetting

    @Holds(of = Holds.TERMS, says = "An informant who is forgotten has no interviews any more: all that"
        + " there are now are forgotten.")
    static void allInterviewsOfTheInformantAreForgotten() {
        DialectAtlas atlas = Check.atlasWith(40);
        Check.due("five", atlas.forget(7), 5);
        for (int i = 0; i < 40; i++) {
            Check.due("form " + i, atlas.form(i), i % 8 == 7 ? Check.NONE : Check.formOf(i));
        }
        Check.due("none any more", atlas.forget(7), 0);
    }

    @Holds(of = Holds.TERMS, says = "Later ones can be entered again.")
    static void laterInterviewsCanBeEntered() {
        DialectAtlas atlas = Check.atlasWith(1);
        atlas.forget(0);
        Check.due("a later one", Check.enter(atlas, 0, 0, 0, 6), 1);
        Check.due("it is there", atlas.form(1), 7);
        Check.due("the former is not", atlas.form(0), Check.NONE);
        Check.due("it counts on the map", atlas.formAt(0, 0), 7);
        Check.due("it is forgotten in turn", atlas.forget(0), 1);
        Check.due("it is forgotten", atlas.form(1), Check.NONE);
    }

    @Holds(of = Holds.TERMS, says = KNOWS)
    static void aSchoolKnowsWhatWasThereThen() {
        DialectAtlas atlas = Check.atlasWith(3);
        atlas.forget(0);
        Check.due("two are there", atlas.copy(1), 2);
        Check.due("what was forgotten before is not owed", atlas.owed(1), 0);
        Check.enter(atlas, 3, 0, 0, 1);
        atlas.forget(3);
        Check.due("what came later is not owed", atlas.owed(1), 0);
        atlas.forget(1);
        Check.due("what was there is owed", atlas.owed(1), 1);
    }

    @Holds(of = Holds.TERMS, says = KNOWS)
    static void aSchoolKnowsTheForgottenUntilItIsTold() {
        DialectAtlas atlas = Check.atlasWith(10);
        atlas.copy(1);
        atlas.forget(0);
        Check.due("two", atlas.owed(1), 2);
        atlas.forget(1);
        Check.due("four", atlas.owed(1), 4);
        Check.enter(atlas, 0, 0, 0, 1);
        Check.due("four still", atlas.owed(1), 4);
        Check.due("four told", atlas.tell(1), 4);
        Check.due("none", atlas.owed(1), 0);
    }

    @Holds(of = Holds.TERMS, says = KNOWS)
    static void aSchoolWithoutACopyKnowsNone() {
        DialectAtlas atlas = Check.atlasWith(2);
        atlas.forget(0);
        Check.due("owed", atlas.owed(2), 0);
        Check.due("tell", atlas.tell(2), 0);
    }

    @Holds(of = Holds.TERMS, says = QUOTE)
    static void aQuoteStays() {
        DialectAtlas atlas = Check.atlasWith(3);
        atlas.quote(2);
        atlas.quote(0);
        atlas.forget(2);
        Check.due("gone, not away", atlas.quoted(0), Check.NONE);
        Check.due("the next one keeps its number", atlas.quoted(1), Check.formOf(0));
        Check.due("the number is not given again", atlas.quote(1), 2);
    }

    @Holds(of = Holds.TERMS, says = QUOTE)
    static void whatAQuoteQuotesIsGoneForGood() {
        DialectAtlas atlas = Check.atlasWith(1);
        atlas.quote(0);
        Check.due("quoted", atlas.quoted(0), Check.formOf(0));
        atlas.forget(0);
        Check.enter(atlas, 0, 0, 0, 0, 0);
        Check.due("gone, though told again", atlas.quoted(0), Check.NONE);
    }

    // ---- the constants

    @Holds(of = Holds.TERMS, says = "The constants: `NONE = -1`: There is none.")
    static void noneIsMinusOne() {
        Check.due("NONE", DialectAtlas.NONE, -1);
        Check.due("no form", new DialectAtlas().formAt(0, 0), -1);
    }

    @Holds(of = Holds.TERMS, says = "`LOST = -1`: A sound goes.")
    static void lostIsMinusOne() {
        Check.due("LOST", DialectAtlas.LOST, -1);
        Check.due("a sound goes", Check.applied(3, -1, 9, 3, 1), 2);
    }

    @Holds(of = Holds.TERMS, says = "`END = 8, ANY = 9`: What may stand behind a sound, besides sounds:"
        + " the end of the form, or anything.")
    static void endIsEightAndAnyIsNine() {
        Check.due("END", DialectAtlas.END, 8);
        Check.due("ANY", DialectAtlas.ANY, 9);
        Check.due("8 is the end", Check.applied(3, 1, 8, 3, 3), Check.number(3, 1));
        Check.due("9 is anything", Check.applied(3, 1, 9, 3, 3), Check.number(1, 1));
    }
}
