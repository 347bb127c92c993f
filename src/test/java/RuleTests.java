/** Promises 6 to 10: rule, rest, stands, expected and far. */
public final class RuleTests {
    private static final String RULE_INDEX = "Throws `IndexOutOfBoundsException` if there is no such sound,"
        + " or place as first or last";
    private static final String RULE_ARGUMENT = "Throws `IllegalArgumentException` if to, behind or year is"
        + " out of range, to is the sound itself, or last is less than first";
    private static final String REST_INDEX = "Throws `IndexOutOfBoundsException` if there is no such rule or"
        + " interview";
    private static final String REST_STATE = "Throws `IllegalStateException` if the rule has fallen, the"
        + " interview is forgotten, or the rule rests on it";
    private static final String EXPECTED_INDEX = "Throws `IndexOutOfBoundsException` if there is no such word"
        + " or place";
    private static final String FAR = "Returns how far the form of an interview is from the expected one of"
        + " its word at its place in its year.";
    private static final String FAR_NONE = "Returns the steps; NONE if the interview is forgotten, or the word"
        + " has no root.";

    public static void main(String[] args) {
        Check.runAll(RuleTests.class);
    }

    // ---- promise 6: rule

    @Holds(of = 6, says = "Enters a rule.")
    static void ruleIsEntered() {
        DialectAtlas atlas = new DialectAtlas();
        Check.root(atlas, 0, 0, 5);
        atlas.rule(0, 3, 5, 2, 4, 50);
        Check.due("it stands", atlas.stands(0), true);
        Check.due("it goes", atlas.expected(0, 3, 60), Check.number(3, 5));
    }

    @Holds(of = 6, says = "- `sound`: 0 to 7")
    static void soundOfRuleIsFrom0To7() {
        for (int sound = 0; sound < 8; sound++) {
            int to = 7 - sound;
            Check.due("sound " + sound, Check.applied(sound, to, Check.ANY, sound, to), Check.number(to, to));
        }
    }

    @Holds(of = 6, says = "- `to`: 0 to 7, or LOST: what becomes of it")
    static void toOfRuleIsFrom0To7OrLost() {
        Check.due("0", Check.applied(3, 0, Check.ANY, 3, 1), Check.number(0, 1));
        Check.due("7", Check.applied(3, 7, Check.ANY, 3, 1), Check.number(7, 1));
        Check.due("LOST", Check.applied(3, Check.LOST, Check.ANY, 3, 1), Check.number(1));
    }

    @Holds(of = 6, says = "- `behind`: 0 to 7, END or ANY: what must stand right behind it")
    static void behindOfRuleIsFrom0To7OrEndOrAny() {
        int[] form = {3, 0, 3, 7, 3};
        Check.due("0", Check.applied(3, 1, 0, form), Check.number(1, 0, 3, 7, 3));
        Check.due("7", Check.applied(3, 1, 7, form), Check.number(3, 0, 1, 7, 3));
        Check.due("END", Check.applied(3, 1, Check.END, form), Check.number(3, 0, 3, 7, 1));
        Check.due("ANY", Check.applied(3, 1, Check.ANY, form), Check.number(1, 0, 1, 7, 1));
        Check.due("the sound itself", Check.applied(3, 1, 3, 3, 3), Check.number(1, 3));
    }

    @Holds(of = 6, says = "- `first`: 0 to 9: the first place")
    static void firstOfRuleIsFrom0To9() {
        DialectAtlas atlas = new DialectAtlas();
        Check.root(atlas, 0, 0, 1, 2);
        atlas.rule(0, 4, Check.ANY, 0, 9, 0);
        atlas.rule(1, 5, Check.ANY, 9, 9, 0);
        atlas.rule(2, 6, Check.ANY, 5, 9, 0);
        Check.due("at 0", atlas.expected(0, 0, 0), Check.number(4, 1, 2));
        Check.due("at 4", atlas.expected(0, 4, 0), Check.number(4, 1, 2));
        Check.due("at 5", atlas.expected(0, 5, 0), Check.number(4, 1, 6));
        Check.due("at 8", atlas.expected(0, 8, 0), Check.number(4, 1, 6));
        Check.due("at 9", atlas.expected(0, 9, 0), Check.number(4, 5, 6));
    }

    @Holds(of = 6, says = "- `last`: first to 9: the last place")
    static void lastOfRuleIsFromFirstTo9() {
        DialectAtlas atlas = new DialectAtlas();
        Check.root(atlas, 0, 0, 1, 2);
        atlas.rule(0, 4, Check.ANY, 0, 0, 0);
        atlas.rule(1, 5, Check.ANY, 0, 9, 0);
        atlas.rule(2, 6, Check.ANY, 5, 5, 0);
        Check.due("at 0", atlas.expected(0, 0, 0), Check.number(4, 5, 2));
        Check.due("at 1", atlas.expected(0, 1, 0), Check.number(0, 5, 2));
        Check.due("at 5", atlas.expected(0, 5, 0), Check.number(0, 5, 6));
        Check.due("at 6", atlas.expected(0, 6, 0), Check.number(0, 5, 2));
        Check.due("at 9", atlas.expected(0, 9, 0), Check.number(0, 5, 2));
    }

    @Holds(of = 6, says = "- `year`: 0 to 300: the first year")
    static void yearOfRuleIsFrom0To300() {
        DialectAtlas atlas = new DialectAtlas();
        Check.root(atlas, 0, 0, 1, 2);
        atlas.rule(0, 4, Check.ANY, 0, 9, 0);
        atlas.rule(1, 5, Check.ANY, 0, 9, 300);
        atlas.rule(2, 6, Check.ANY, 0, 9, 1);
        Check.due("in 0", atlas.expected(0, 0, 0), Check.number(4, 1, 2));
        Check.due("in 1", atlas.expected(0, 0, 1), Check.number(4, 1, 6));
        Check.due("in 299", atlas.expected(0, 0, 299), Check.number(4, 1, 6));
        Check.due("in 300", atlas.expected(0, 0, 300), Check.number(4, 5, 6));
    }

    @Holds(of = 6, says = "Returns the number of the rule.")
    static void ruleReturnsItsNumber() {
        DialectAtlas atlas = Check.atlasWith(8);
        for (int i = 0; i < 20; i++) {
            Check.due("rule", Check.everywhere(atlas, 0, 1, Check.ANY), i);
            if (i % 3 == 0) {
                atlas.rest(i, i / 3);
                atlas.forget(i / 3);
                Check.due("its number is not given again", atlas.stands(i), false);
            }
        }
    }

    @Holds(of = 6, says = RULE_INDEX)
    static void ruleRefusesNoSuchSound() {
        DialectAtlas atlas = new DialectAtlas();
        Check.refusesOutside(0, 7, Check.INDEX, n -> atlas.rule(n, 1, 0, 0, 9, 0));
        Check.refusesOutside(0, 7, Check.INDEX, n -> atlas.rule(n, n, n, 9, 0, -1));
    }

    @Holds(of = 6, says = RULE_INDEX)
    static void ruleRefusesNoSuchFirstPlace() {
        DialectAtlas atlas = new DialectAtlas();
        Check.refusesOutside(0, 9, Check.INDEX, n -> atlas.rule(0, 1, 0, n, 9, 0));
        Check.refusesOutside(0, 9, Check.INDEX, n -> atlas.rule(0, 0, 10, n, 0, 301));
    }

    @Holds(of = 6, says = RULE_INDEX)
    static void ruleRefusesNoSuchLastPlace() {
        DialectAtlas atlas = new DialectAtlas();
        Check.refusesOutside(0, 9, Check.INDEX, n -> atlas.rule(0, 1, 0, 0, n, 0));
        Check.refusesOutside(0, 9, Check.INDEX, n -> atlas.rule(0, 0, 10, 9, n, 301));
    }

    @Holds(of = 6, says = RULE_ARGUMENT)
    static void ruleRefusesToOutOfRange() {
        DialectAtlas atlas = new DialectAtlas();
        for (int behind = 0; behind < 10; behind++) {
            int right = behind;
            Check.refusesOutside(-1, 7, Check.ARGUMENT, n -> atlas.rule(0, n, right, 0, 9, 0));
        }
    }

    @Holds(of = 6, says = RULE_ARGUMENT)
    static void ruleRefusesBehindOutOfRange() {
        DialectAtlas atlas = new DialectAtlas();
        for (int to = -1; to < 7; to++) {
            int right = to;
            Check.refusesOutside(0, 9, Check.ARGUMENT, n -> atlas.rule(7, right, n, 0, 9, 0));
        }
    }

    @Holds(of = 6, says = RULE_ARGUMENT)
    static void ruleRefusesAYearOutOfRange() {
        DialectAtlas atlas = new DialectAtlas();
        Check.refusesOutside(0, 300, Check.ARGUMENT, n -> atlas.rule(0, 1, 0, 0, 9, n));
    }

    @Holds(of = 6, says = RULE_ARGUMENT)
    static void ruleRefusesASoundThatBecomesItself() {
        DialectAtlas atlas = new DialectAtlas();
        for (int sound = 0; sound < 8; sound++) {
            int itself = sound;
            Check.refuses("sound " + sound, Check.ARGUMENT, () -> atlas.rule(itself, itself, 9, 0, 9, 0));
        }
    }

    @Holds(of = 6, says = RULE_ARGUMENT)
    static void ruleRefusesALastPlaceBeforeTheFirst() {
        DialectAtlas atlas = new DialectAtlas();
        for (int first = 1; first < 10; first++) {
            for (int last = 0; last < first; last++) {
                int from = first;
                int till = last;
                Check.refuses("places", Check.ARGUMENT, () -> atlas.rule(0, 1, 9, from, till, 0));
            }
        }
    }

    @Holds(of = 6, says = "Throws `IllegalStateException` if there are 20 rules")
    static void ruleRefusesATwentyFirst() {
        DialectAtlas atlas = new DialectAtlas();
        for (int i = 0; i < 20; i++) {
            Check.due("the same rule again", Check.everywhere(atlas, 0, 1, Check.ANY), i);
        }
        Check.refuses("a 21st", Check.STATE, () -> atlas.rule(0, 1, Check.ANY, 0, 9, 0));
        Check.refuses("stands 20", Check.INDEX, () -> atlas.stands(20) ? 1 : 0);
    }

    @Holds(of = 6, says = "Throws `IllegalStateException` if there are 20 rules")
    static void ruleCountsThoseThatHaveFallen() {
        DialectAtlas atlas = Check.atlasWith(1);
        for (int i = 0; i < 20; i++) {
            Check.everywhere(atlas, 0, 1, Check.ANY);
            atlas.rest(i, 0);
        }
        atlas.forget(0);
        Check.due("all have fallen", atlas.stands(19), false);
        Check.refuses("a 21st", Check.STATE, () -> atlas.rule(0, 1, Check.ANY, 0, 9, 0));
    }

    // ---- promise 7: rest

    @Holds(of = 7, says = "Tells that a rule rests on an interview.")
    static void restLetsARuleRest() {
        DialectAtlas atlas = Check.atlasWith(2);
        Check.everywhere(atlas, 0, 1, Check.ANY);
        Check.everywhere(atlas, 0, 1, Check.ANY);
        atlas.rest(1, 0);
        Check.due("it stands still", atlas.stands(1), true);
        atlas.forget(1);
        Check.due("it does not rest on another", atlas.stands(1), true);
        atlas.forget(0);
        Check.due("it rested on this one", atlas.stands(1), false);
        Check.due("the other rule did not", atlas.stands(0), true);
    }

    @Holds(of = 7, says = "- `rule`: the rule")
    static void ruleOfRestIsAnyFromFirstToLast() {
        DialectAtlas atlas = Check.atlasWith(2);
        for (int i = 0; i < 20; i++) {
            Check.everywhere(atlas, 0, 1, Check.ANY);
        }
        Check.due("the first", atlas.rest(0, 0), 1);
        Check.due("the last", atlas.rest(19, 0), 1);
        atlas.forget(0);
        for (int i = 0; i < 20; i++) {
            Check.due("stands " + i, atlas.stands(i), i != 0 && i != 19);
        }
    }

    @Holds(of = 7, says = "- `interview`: the interview")
    static void interviewOfRestIsAnyFromFirstToLast() {
        for (int interview = 0; interview < 40; interview++) {
            DialectAtlas atlas = Check.atlasWith(40);
            Check.everywhere(atlas, 0, 1, Check.ANY);
            Check.due("rest on " + interview, atlas.rest(0, interview), 1);
            for (int informant = 0; informant < 8; informant++) {
                if (informant != interview % 8) {
                    atlas.forget(informant);
                }
            }
            Check.due("the others are forgotten", atlas.stands(0), true);
            atlas.forget(interview % 8);
            Check.due("this one is forgotten", atlas.stands(0), false);
        }
    }

    @Holds(of = 7, says = "Returns on how many interviews it rests.")
    static void restReturnsOnHowMany() {
        DialectAtlas atlas = Check.atlasWith(40);
        Check.everywhere(atlas, 0, 1, Check.ANY);
        Check.everywhere(atlas, 0, 1, Check.ANY);
        for (int i = 39; i >= 0; i--) {
            Check.due("rest on " + i, atlas.rest(0, i), 40 - i);
        }
        Check.due("the other rule", atlas.rest(1, 39), 1);
    }

    @Holds(of = 7, says = "Returns on how many interviews it rests.")
    static void restCountsNoForgottenOnes() {
        DialectAtlas atlas = Check.atlasWith(40);
        Check.everywhere(atlas, 0, 1, Check.ANY);
        for (int i = 0; i < 39; i++) {
            atlas.rest(0, i);
        }
        atlas.forget(0);
        Check.due("34 are left, and one more", atlas.rest(0, 39), 35);
    }

    @Holds(of = 7, says = REST_INDEX)
    static void restRefusesNoSuchRule() {
        for (int count : new int[] {0, 1, 20}) {
            DialectAtlas atlas = Check.atlasWith(1);
            for (int i = 0; i < count; i++) {
                Check.everywhere(atlas, 0, 1, Check.ANY);
            }
            Check.refusesOutside(0, count - 1, Check.INDEX, n -> atlas.rest(n, 0));
        }
    }

    @Holds(of = 7, says = REST_INDEX)
    static void restRefusesNoSuchInterview() {
        for (int count : new int[] {0, 1, 32, 40}) {
            DialectAtlas atlas = Check.atlasWith(count);
            Check.everywhere(atlas, 0, 1, Check.ANY);
            Check.refusesOutside(0, count - 1, Check.INDEX, n -> atlas.rest(0, n));
        }
    }

    @Holds(of = 7, says = REST_STATE)
    static void restRefusesARuleThatHasFallen() {
        DialectAtlas atlas = Check.atlasWith(2);
        Check.everywhere(atlas, 0, 1, Check.ANY);
        atlas.rest(0, 0);
        atlas.forget(0);
        Check.refuses("on one that is there", Check.STATE, () -> atlas.rest(0, 1));
    }

    @Holds(of = 7, says = REST_STATE)
    static void restRefusesAForgottenInterview() {
        DialectAtlas atlas = Check.atlasWith(2);
        Check.everywhere(atlas, 0, 1, Check.ANY);
        Check.everywhere(atlas, 0, 1, Check.ANY);
        atlas.rest(0, 0);
        atlas.rest(0, 1);
        atlas.forget(0);
        Check.refuses("on which it rested", Check.STATE, () -> atlas.rest(0, 0));
        Check.refuses("on which it never rested", Check.STATE, () -> atlas.rest(1, 0));
        Check.due("that one stands", atlas.stands(1), true);
    }

    @Holds(of = 7, says = REST_STATE)
    static void restRefusesAnInterviewOnWhichTheRuleRests() {
        DialectAtlas atlas = Check.atlasWith(40);
        Check.everywhere(atlas, 0, 1, Check.ANY);
        for (int interview : new int[] {0, 7, 8, 31, 32, 39}) {
            atlas.rest(0, interview);
            Check.refuses("again on " + interview, Check.STATE, () -> atlas.rest(0, interview));
        }
        Check.due("six, and one more", atlas.rest(0, 1), 7);
    }

    // ---- promise 8: stands

    @Holds(of = 8, says = "Tells whether a rule stands.")
    static void standsTellsOfOneRule() {
        DialectAtlas atlas = Check.atlasWith(2);
        for (int i = 0; i < 3; i++) {
            Check.everywhere(atlas, 0, 1, Check.ANY);
        }
        atlas.rest(1, 0);
        atlas.forget(0);
        Check.due("the one before", atlas.stands(0), true);
        Check.due("the one", atlas.stands(1), false);
        Check.due("the one behind", atlas.stands(2), true);
    }

    @Holds(of = 8, says = "- `rule`: the rule")
    static void ruleOfStandsIsAnyFromFirstToLast() {
        DialectAtlas atlas = Check.atlasWith(1);
        for (int i = 0; i < 20; i++) {
            Check.everywhere(atlas, 0, 1, Check.ANY);
            Check.due("stands " + i, atlas.stands(i), true);
        }
        atlas.rest(19, 0);
        atlas.forget(0);
        Check.due("the first", atlas.stands(0), true);
        Check.due("the last", atlas.stands(19), false);
    }

    @Holds(of = 8, says = "Returns true if it does; false if it has fallen.")
    static void standsIsTrueOrFalse() {
        DialectAtlas atlas = Check.atlasWith(2);
        Check.everywhere(atlas, 0, 1, Check.ANY);
        Check.due("without interviews", atlas.stands(0), true);
        atlas.rest(0, 0);
        atlas.rest(0, 1);
        Check.due("with two", atlas.stands(0), true);
        atlas.forget(0);
        Check.due("with one", atlas.stands(0), true);
        atlas.forget(1);
        Check.due("with none any more", atlas.stands(0), false);
    }

    @Holds(of = 8, says = "Throws `IndexOutOfBoundsException` if there is no such rule")
    static void standsRefusesNoSuchRule() {
        for (int count : new int[] {0, 1, 19, 20}) {
            DialectAtlas atlas = new DialectAtlas();
            for (int i = 0; i < count; i++) {
                Check.everywhere(atlas, 0, 1, Check.ANY);
            }
            Check.refusesOutside(0, count - 1, Check.INDEX, n -> atlas.stands(n) ? 1 : 0);
        }
    }

    // ---- promise 9: expected

    @Holds(of = 9, says = "Returns the expected form of a word.")
    static void expectedIsTheRootByTheRules() {
        DialectAtlas atlas = new DialectAtlas();
        Check.root(atlas, 1, 2, 2, 2, 3);
        Check.due("the root alone", atlas.expected(1, 0, 0), Check.number(2, 2, 2, 3));
        atlas.rule(2, 3, 3, 0, 4, 100);
        atlas.rule(3, Check.LOST, Check.END, 3, 9, 200);
        Check.due("the first rule", atlas.expected(1, 0, 300), Check.number(2, 2, 3, 3));
        Check.due("both rules", atlas.expected(1, 3, 200), Check.number(2, 2, 3));
        Check.due("the second rule", atlas.expected(1, 9, 300), Check.number(2, 2, 2));
        Check.due("neither", atlas.expected(1, 9, 199), Check.number(2, 2, 2, 3));
    }

    @Holds(of = 9, says = "Returns the expected form of a word.")
    static void expectedChangesNothing() {
        DialectAtlas atlas = new DialectAtlas();
        Check.root(atlas, 1, 0);
        Check.everywhere(atlas, 0, 1, Check.ANY);
        Check.everywhere(atlas, 1, 2, Check.ANY);
        atlas.rule(2, 0, Check.ANY, 0, 9, 1);
        Check.due("once", atlas.expected(1, 0, 0), 3);
        Check.due("again", atlas.expected(1, 0, 0), 3);
        Check.due("the root stays", Check.root(atlas, 1, 5), 1);
    }

    @Holds(of = 9, says = "- `word`: 0 to 3")
    static void wordOfExpectedIsFrom0To3() {
        DialectAtlas atlas = new DialectAtlas();
        Check.root(atlas, 0, 5);
        Check.root(atlas, 3, 6);
        Check.due("0", atlas.expected(0, 0, 0), 6);
        Check.due("3", atlas.expected(3, 0, 0), 7);
    }

    @Holds(of = 9, says = "- `place`: 0 to 9")
    static void placeOfExpectedIsFrom0To9() {
        DialectAtlas atlas = new DialectAtlas();
        Check.root(atlas, 0, 5);
        atlas.rule(5, 6, Check.ANY, 0, 0, 0);
        atlas.rule(5, 7, Check.ANY, 9, 9, 0);
        Check.due("0", atlas.expected(0, 0, 0), 7);
        Check.due("9", atlas.expected(0, 9, 0), 8);
    }

    @Holds(of = 9, says = "- `year`: 0 to 300")
    static void yearOfExpectedIsFrom0To300() {
        DialectAtlas atlas = new DialectAtlas();
        Check.root(atlas, 0, 5);
        atlas.rule(5, 6, Check.ANY, 0, 9, 0);
        atlas.rule(6, 7, Check.ANY, 0, 9, 300);
        Check.due("0", atlas.expected(0, 0, 0), 7);
        Check.due("300", atlas.expected(0, 0, 300), 8);
    }

    @Holds(of = 9, says = "Returns the form; NONE if the word has no root.")
    static void expectedIsNoneWithoutARoot() {
        DialectAtlas atlas = new DialectAtlas();
        Check.root(atlas, 1, 7, 7, 7, 7, 7, 7, 7, 7);
        Check.enter(atlas, 0, 0, 2, 5);
        Check.everywhere(atlas, 5, 6, Check.ANY);
        Check.due("with a root", atlas.expected(1, 0, 0), Check.LONGEST);
        Check.due("with an interview alone", atlas.expected(2, 0, 0), Check.NONE);
        Check.due("with none at all", atlas.expected(0, 0, 0), Check.NONE);
    }

    @Holds(of = 9, says = EXPECTED_INDEX)
    static void expectedRefusesNoSuchWord() {
        DialectAtlas atlas = new DialectAtlas();
        Check.refusesOutside(0, 3, Check.INDEX, n -> atlas.expected(n, 0, 0));
    }

    @Holds(of = 9, says = EXPECTED_INDEX)
    static void expectedRefusesNoSuchPlace() {
        DialectAtlas atlas = new DialectAtlas();
        Check.refusesOutside(0, 9, Check.INDEX, n -> atlas.expected(0, n, 0));
        Check.root(atlas, 0, 0);
        Check.refusesOutside(0, 9, Check.INDEX, n -> atlas.expected(0, n, 0));
    }

    @Holds(of = 9, says = "Throws `IllegalArgumentException` if year is out of range")
    static void expectedRefusesAYearOutOfRange() {
        DialectAtlas atlas = new DialectAtlas();
        Check.refusesOutside(0, 300, Check.ARGUMENT, n -> atlas.expected(0, 0, n));
        Check.root(atlas, 0, 0);
        Check.refusesOutside(0, 300, Check.ARGUMENT, n -> atlas.expected(0, 0, n));
    }

    // ---- promise 10: far

    @Holds(of = 10, says = FAR)
    static void farGoesByTheWord() {
        DialectAtlas atlas = new DialectAtlas();
        Check.root(atlas, 1, 0, 0, 0);
        Check.root(atlas, 2, 5);
        Check.due("the word 1", atlas.far(Check.enter(atlas, 0, 0, 1, 5)), 3);
        Check.due("the word 2", atlas.far(Check.enter(atlas, 0, 0, 2, 5)), 0);
        Check.root(atlas, 1, 5, 0);
        Check.due("by its root as it is now", atlas.far(0), 1);
    }

    @Holds(of = 10, says = FAR)
    static void farGoesByThePlace() {
        DialectAtlas atlas = new DialectAtlas();
        Check.root(atlas, 0, 0);
        atlas.rule(0, 5, Check.ANY, 4, 6, 0);
        for (int place = 0; place < 10; place++) {
            int want = place >= 4 && place <= 6 ? 0 : 1;
            Check.due("at " + place, atlas.far(Check.enter(atlas, 0, place, 0, 5)), want);
        }
    }

    @Holds(of = 10, says = FAR)
    static void farGoesByTheYear() {
        DialectAtlas atlas = new DialectAtlas();
        Check.root(atlas, 0, 0);
        atlas.rule(0, 5, Check.ANY, 0, 9, 150);
        Check.due("the year before", atlas.far(Check.enterIn(149, atlas, 0, 0, 0, 5)), 1);
        Check.due("the first year", atlas.far(Check.enterIn(150, atlas, 0, 0, 0, 5)), 0);
        Check.due("the last year", atlas.far(Check.enterIn(300, atlas, 0, 0, 0, 5)), 0);
        Check.due("the year 0", atlas.far(Check.enterIn(0, atlas, 0, 0, 0, 5)), 1);
    }

    @Holds(of = 10, says = FAR)
    static void farGoesByRulesThatStand() {
        DialectAtlas atlas = new DialectAtlas();
        Check.root(atlas, 0, 0);
        Check.enter(atlas, 0, 0, 0, 5);
        Check.enter(atlas, 1, 0, 0, 5);
        Check.everywhere(atlas, 0, 5, Check.ANY);
        atlas.rest(0, 0);
        Check.due("by the rule", atlas.far(1), 0);
        atlas.forget(0);
        Check.due("without it", atlas.far(1), 1);
    }

    @Holds(of = 10, says = "- `interview`: the interview")
    static void interviewOfFarIsAnyFromFirstToLast() {
        DialectAtlas atlas = new DialectAtlas();
        Check.root(atlas, 0, 7);
        for (int i = 0; i < 40; i++) {
            Check.enter(atlas, i % 8, 0, 0, i % 8);
        }
        for (int i = 0; i < 40; i++) {
            Check.due("far " + i, atlas.far(i), i % 8 == 7 ? 0 : 1);
        }
    }

    @Holds(of = 10, says = FAR_NONE)
    static void farReturnsTheSteps() {
        int[] eight = {0, 1, 2, 3, 4, 5, 6, 7};
        Check.due("none", Check.farFrom(eight, eight), 0);
        Check.due("one", Check.farFrom(eight, 0, 1, 2, 3, 4, 5, 6), 1);
        Check.due("seven", Check.farFrom(eight, 4), 7);
        Check.due("turned round", Check.farFrom(eight, 7, 6, 5, 4, 3, 2, 1, 0), 8);
        Check.due("eight", Check.farFrom(eight, 7, 7, 7, 7, 7, 7, 7, 6), 8);
    }

    @Holds(of = 10, says = FAR_NONE)
    static void farIsFreshEachTime() {
        DialectAtlas atlas = new DialectAtlas();
        Check.root(atlas, 0, 0, 1, 2, 3, 4, 5, 6, 7);
        Check.enter(atlas, 0, 0, 0, 7);
        Check.enter(atlas, 0, 0, 0, 0, 1, 2, 3, 4, 5, 6, 7);
        Check.due("seven", atlas.far(0), 7);
        Check.due("none", atlas.far(1), 0);
        Check.due("seven again", atlas.far(0), 7);
        Check.root(atlas, 0, 7);
        Check.due("none now", atlas.far(0), 0);
        Check.due("seven now", atlas.far(1), 7);
    }

    @Holds(of = 10, says = FAR_NONE)
    static void farIsNoneIfForgotten() {
        DialectAtlas atlas = Check.atlasWith(40);
        Check.root(atlas, 3, 7, 4);
        Check.due("there", atlas.far(39), 0);
        atlas.forget(7);
        Check.due("forgotten", atlas.far(39), Check.NONE);
        Check.due("another one", atlas.far(3), 2);
    }

    @Holds(of = 10, says = FAR_NONE)
    static void farIsNoneWithoutARoot() {
        DialectAtlas atlas = Check.atlasWith(4);
        Check.root(atlas, 0, 0);
        Check.everywhere(atlas, 1, 2, Check.ANY);
        Check.due("a word with a root", atlas.far(0), 1);
        Check.due("one without", atlas.far(1), Check.NONE);
        atlas.forget(1);
        Check.due("one without, forgotten", atlas.far(1), Check.NONE);
    }

    @Holds(of = 10, says = "Throws `IndexOutOfBoundsException` if there is no such interview")
    static void farRefusesNoSuchInterview() {
        for (int count : new int[] {0, 1, 32, 40}) {
            DialectAtlas atlas = Check.atlasWith(count);
            Check.refusesOutside(0, count - 1, Check.INDEX, atlas::far);
        }
    }
}
