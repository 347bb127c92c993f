/** Promises 14 to 19: forget, copy, tell, owed, quote and quoted. */
public final class ForgettingTests {
    private static final String SCHOOL = "- `school`: 0 to 2";
    private static final String SCHOOL_INDEX = "Throws `IndexOutOfBoundsException` if there is no such school";
    private static final String COPY = "Gives a school a copy, in place of the one that it may have.";
    private static final String TELL = "Tells a school to forget all interviews that are forgotten.";
    private static final String QUOTE_STATE = "Throws `IllegalStateException` if it is forgotten, or there are"
        + " 20 quotes";
    private static final String QUOTED = "Returns the form of its interview; NONE if that is forgotten.";

    public static void main(String[] args) {
        Check.runAll(ForgettingTests.class);
    }

    // ---- promise 14: forget

    @Holds(of = 14, says = "Forgets an informant.")
    static void forgetForgetsOneInformant() {
        DialectAtlas atlas = Check.atlasWith(40);
        atlas.forget(4);
        for (int i = 0; i < 40; i++) {
            Check.due("form " + i, atlas.form(i), i % 8 == 4 ? Check.NONE : Check.formOf(i));
        }
    }

    @Holds(of = 14, says = "Forgets an informant.")
    static void forgetLeavesDraftAndRoots() {
        DialectAtlas atlas = Check.atlasWith(8);
        Check.root(atlas, 0, 3);
        Check.draft(atlas, 5);
        for (int informant = 0; informant < 8; informant++) {
            atlas.forget(informant);
        }
        Check.due("the root", atlas.expected(0, 0, 0), 4);
        Check.due("the draft", atlas.sound(6), 2);
        Check.due("the next number", atlas.interview(0, 0, 0, 0), 8);
        Check.due("the form", atlas.form(8), Check.number(5, 6));
    }

    @Holds(of = 14, says = "- `informant`: 0 to 7")
    static void informantOfForgetIsFrom0To7() {
        DialectAtlas atlas = Check.atlasWith(8);
        Check.due("7", atlas.forget(7), 1);
        Check.due("0", atlas.forget(0), 1);
        for (int i = 0; i < 8; i++) {
            Check.due("form " + i, atlas.form(i), i == 0 || i == 7 ? Check.NONE : Check.formOf(i));
        }
    }

    @Holds(of = 14, says = "Returns how many interviews are forgotten by that.")
    static void forgetReturnsHowMany() {
        DialectAtlas atlas = new DialectAtlas();
        Check.due("nobody's", atlas.forget(3), 0);
        for (int i = 0; i < 40; i++) {
            Check.enter(atlas, 3, 0, 0, 0);
        }
        Check.due("another's", atlas.forget(2), 0);
        Check.due("all forty", atlas.forget(3), 40);
        Check.due("those are forgotten already", atlas.forget(3), 0);
    }

    @Holds(of = 14, says = "Returns how many interviews are forgotten by that.")
    static void forgetReturnsHowManyLaterOnes() {
        DialectAtlas atlas = Check.atlasWith(16);
        Check.due("two", atlas.forget(5), 2);
        Check.enter(atlas, 5, 0, 0, 0);
        Check.due("the later one alone", atlas.forget(5), 1);
    }

    @Holds(of = 14, says = "Throws `IndexOutOfBoundsException` if there is no such informant")
    static void forgetRefusesNoSuchInformant() {
        DialectAtlas atlas = Check.atlasWith(8);
        Check.refusesOutside(0, 7, Check.INDEX, atlas::forget);
        Check.due("all are there", atlas.copy(0), 8);
    }

    // ---- promise 15: copy

    @Holds(of = 15, says = COPY)
    static void copyGivesWhatIsThere() {
        DialectAtlas atlas = Check.atlasWith(2);
        atlas.copy(1);
        Check.due("nothing is owed yet", atlas.owed(1), 0);
        atlas.forget(0);
        Check.due("one is owed", atlas.owed(1), 1);
        Check.due("no other school has it", atlas.owed(0), 0);
        Check.due("no other school has it", atlas.owed(2), 0);
    }

    @Holds(of = 15, says = COPY)
    static void copyIsInPlaceOfTheFormerOne() {
        DialectAtlas atlas = Check.atlasWith(3);
        atlas.copy(1);
        atlas.forget(0);
        Check.due("one was owed", atlas.owed(1), 1);
        Check.due("two", atlas.copy(1), 2);
        Check.due("the former copy is gone", atlas.owed(1), 0);
        Check.due("nothing to tell", atlas.tell(1), 0);
        atlas.forget(1);
        Check.due("by the new copy", atlas.owed(1), 1);
    }

    @Holds(of = 15, says = COPY)
    static void copyGivesLaterInterviewsAtLast() {
        DialectAtlas atlas = Check.atlasWith(1);
        atlas.copy(1);
        Check.enter(atlas, 7, 0, 0, 0);
        atlas.copy(1);
        atlas.forget(7);
        Check.due("the new copy has it", atlas.owed(1), 1);
    }

    @Holds(of = 15, says = SCHOOL)
    static void schoolOfCopyIsFrom0To2() {
        DialectAtlas atlas = Check.atlasWith(1);
        Check.due("0", atlas.copy(0), 1);
        Check.due("2", atlas.copy(2), 1);
        atlas.forget(0);
        Check.due("0 owes", atlas.owed(0), 1);
        Check.due("1 does not", atlas.owed(1), 0);
        Check.due("2 owes", atlas.owed(2), 1);
    }

    @Holds(of = 15, says = "Returns how many interviews it knows then.")
    static void copyReturnsHowManyItKnows() {
        DialectAtlas atlas = new DialectAtlas();
        Check.due("none", atlas.copy(0), 0);
        for (int i = 1; i <= 40; i++) {
            Check.enter(atlas, i % 8, 0, 0, 0);
            Check.due("so many", atlas.copy(0), i);
        }
        for (int i = 7; i >= 0; i--) {
            atlas.forget(i);
            Check.due("so many left", atlas.copy(0), 5 * i);
        }
    }

    @Holds(of = 15, says = SCHOOL_INDEX)
    static void copyRefusesNoSuchSchool() {
        Check.refusesOutside(0, 2, Check.INDEX, Check.atlasWith(1)::copy);
    }

    // ---- promise 16: tell

    @Holds(of = 16, says = TELL)
    static void tellLetsASchoolForget() {
        DialectAtlas atlas = Check.atlasWith(3);
        atlas.copy(0);
        atlas.copy(1);
        atlas.forget(0);
        atlas.tell(0);
        Check.due("it owes none", atlas.owed(0), 0);
        Check.due("the other school does", atlas.owed(1), 1);
    }

    @Holds(of = 16, says = TELL)
    static void tellLeavesWhatIsThere() {
        DialectAtlas atlas = Check.atlasWith(3);
        atlas.copy(0);
        atlas.forget(0);
        atlas.tell(0);
        atlas.forget(1);
        Check.due("one that was there is owed now", atlas.owed(0), 1);
        atlas.tell(0);
        atlas.forget(2);
        Check.due("the last one is owed now", atlas.owed(0), 1);
    }

    @Holds(of = 16, says = TELL)
    static void tellTeachesNothing() {
        DialectAtlas atlas = Check.atlasWith(1);
        atlas.copy(0);
        Check.enter(atlas, 5, 0, 0, 0);
        atlas.tell(0);
        atlas.tell(1);
        atlas.forget(5);
        Check.due("it does not know what came later", atlas.owed(0), 0);
        Check.due("a school without a copy", atlas.owed(1), 0);
    }

    @Holds(of = 16, says = SCHOOL)
    static void schoolOfTellIsFrom0To2() {
        DialectAtlas atlas = Check.atlasWith(1);
        for (int school = 0; school < 3; school++) {
            atlas.copy(school);
        }
        atlas.forget(0);
        Check.due("0", atlas.tell(0), 1);
        Check.due("2", atlas.tell(2), 1);
        Check.due("1 still owes", atlas.owed(1), 1);
    }

    @Holds(of = 16, says = "Returns how many it forgets by that.")
    static void tellReturnsHowMany() {
        DialectAtlas atlas = Check.atlasWith(40);
        Check.due("without a copy", atlas.tell(0), 0);
        atlas.copy(0);
        Check.due("none is forgotten", atlas.tell(0), 0);
        atlas.forget(7);
        Check.due("five", atlas.tell(0), 5);
        Check.due("those are told already", atlas.tell(0), 0);
        for (int informant = 0; informant < 7; informant++) {
            atlas.forget(informant);
        }
        Check.due("all others", atlas.tell(0), 35);
    }

    @Holds(of = 16, says = SCHOOL_INDEX)
    static void tellRefusesNoSuchSchool() {
        Check.refusesOutside(0, 2, Check.INDEX, Check.atlasWith(1)::tell);
    }

    // ---- promise 17: owed

    @Holds(of = 17, says = "Returns how many interviews a school knows that are forgotten.")
    static void owedCountsWhatTheSchoolKnows() {
        DialectAtlas atlas = Check.atlasWith(8);
        atlas.forget(0);
        atlas.copy(2);
        Check.enter(atlas, 1, 0, 0, 0);
        Check.due("none", atlas.owed(2), 0);
        atlas.forget(1);
        Check.due("not the later one", atlas.owed(2), 1);
        atlas.forget(2);
        Check.due("two", atlas.owed(2), 2);
        Check.due("asking tells nothing", atlas.owed(2), 2);
        Check.due("two to tell", atlas.tell(2), 2);
    }

    @Holds(of = 17, says = SCHOOL)
    static void schoolOfOwedIsFrom0To2() {
        DialectAtlas atlas = Check.atlasWith(4);
        atlas.copy(0);
        atlas.forget(0);
        atlas.copy(1);
        atlas.forget(1);
        atlas.copy(2);
        atlas.forget(2);
        Check.due("0", atlas.owed(0), 3);
        Check.due("1", atlas.owed(1), 2);
        Check.due("2", atlas.owed(2), 1);
    }

    @Holds(of = 17, says = "Returns how many.")
    static void owedReturnsHowMany() {
        DialectAtlas atlas = Check.atlasWith(40);
        Check.due("without a copy", atlas.owed(0), 0);
        atlas.copy(0);
        for (int informant = 0; informant < 8; informant++) {
            Check.due("so many", atlas.owed(0), 5 * informant);
            atlas.forget(informant);
        }
        Check.due("all forty", atlas.owed(0), 40);
    }

    @Holds(of = 17, says = SCHOOL_INDEX)
    static void owedRefusesNoSuchSchool() {
        Check.refusesOutside(0, 2, Check.INDEX, Check.atlasWith(1)::owed);
    }

    // ---- promise 18: quote

    @Holds(of = 18, says = "Quotes an interview.")
    static void quoteQuotesOneInterview() {
        DialectAtlas atlas = Check.atlasWith(3);
        atlas.quote(2);
        Check.due("quoted", atlas.quoted(0), Check.formOf(2));
        atlas.quote(2);
        Check.due("the same one again", atlas.quoted(1), Check.formOf(2));
        Check.due("nothing is forgotten", atlas.copy(0), 3);
    }

    @Holds(of = 18, says = "- `interview`: the interview")
    static void interviewOfQuoteIsAnyFromFirstToLast() {
        for (int half = 0; half < 2; half++) {
            DialectAtlas atlas = Check.atlasWith(40);
            for (int i = 0; i < 20; i++) {
                int interview = 20 * half + i;
                Check.due("quote " + interview, atlas.quote(interview), i);
                Check.due("quoted", atlas.quoted(i), Check.formOf(interview));
            }
        }
    }

    @Holds(of = 18, says = "Returns the number of the quote, from 0 on.")
    static void quoteReturnsItsNumber() {
        DialectAtlas atlas = Check.atlasWith(2);
        for (int i = 0; i < 10; i++) {
            Check.due("quote", atlas.quote(i % 2), i);
        }
        atlas.forget(0);
        for (int i = 10; i < 20; i++) {
            Check.due("no number is given again", atlas.quote(1), i);
        }
    }

    @Holds(of = 18, says = "Throws `IndexOutOfBoundsException` if there is no such interview")
    static void quoteRefusesNoSuchInterview() {
        for (int count : new int[] {0, 1, 32, 40}) {
            DialectAtlas atlas = Check.atlasWith(count);
            Check.refusesOutside(0, count - 1, Check.INDEX, atlas::quote);
        }
    }

    @Holds(of = 18, says = QUOTE_STATE)
    static void quoteRefusesAForgottenInterview() {
        DialectAtlas atlas = Check.atlasWith(40);
        atlas.quote(39);
        atlas.forget(7);
        Check.refuses("one quoted before", Check.STATE, () -> atlas.quote(39));
        Check.refuses("one never quoted", Check.STATE, () -> atlas.quote(7));
        Check.due("the next quote", atlas.quote(38), 1);
    }

    @Holds(of = 18, says = QUOTE_STATE)
    static void quoteRefusesATwentyFirst() {
        DialectAtlas atlas = Check.atlasWith(2);
        for (int i = 0; i < 20; i++) {
            Check.due("quote", atlas.quote(0), i);
        }
        Check.refuses("a 21st", Check.STATE, () -> atlas.quote(0));
        Check.refuses("a 21st, of another one", Check.STATE, () -> atlas.quote(1));
        Check.due("the twentieth", atlas.quoted(19), Check.formOf(0));
    }

    @Holds(of = 18, says = QUOTE_STATE)
    static void quoteCountsThoseOfForgottenInterviews() {
        DialectAtlas atlas = Check.atlasWith(2);
        for (int i = 0; i < 20; i++) {
            atlas.quote(0);
        }
        atlas.forget(0);
        Check.refuses("a 21st", Check.STATE, () -> atlas.quote(1));
    }

    // ---- promise 19: quoted

    @Holds(of = 19, says = "Returns what a quote quotes.")
    static void quotedIsThatOfItsQuote() {
        DialectAtlas atlas = Check.atlasWith(3);
        atlas.quote(2);
        atlas.quote(0);
        Check.due("the first quote", atlas.quoted(0), Check.formOf(2));
        Check.due("the second quote", atlas.quoted(1), Check.formOf(0));
    }

    @Holds(of = 19, says = "- `quote`: the quote")
    static void quoteOfQuotedIsAnyFromFirstToLast() {
        DialectAtlas atlas = Check.atlasWith(40);
        for (int i = 0; i < 20; i++) {
            atlas.quote(39 - i);
        }
        for (int i = 0; i < 20; i++) {
            Check.due("quoted " + i, atlas.quoted(i), Check.formOf(39 - i));
        }
    }

    @Holds(of = 19, says = QUOTED)
    static void quotedReturnsLeastAndGreatestForms() {
        DialectAtlas atlas = new DialectAtlas();
        Check.enter(atlas, 0, 0, 0, 0);
        Check.enter(atlas, 0, 0, 0, 7, 7, 7, 7, 7, 7, 7, 7);
        atlas.quote(0);
        atlas.quote(1);
        Check.due("the least", atlas.quoted(0), 1);
        Check.due("the greatest", atlas.quoted(1), Check.LONGEST);
    }

    @Holds(of = 19, says = QUOTED)
    static void quotedIsNoneIfForgotten() {
        DialectAtlas atlas = Check.atlasWith(20);
        for (int i = 0; i < 20; i++) {
            atlas.quote(19 - i);
        }
        atlas.forget(3);
        for (int i = 0; i < 20; i++) {
            boolean gone = (19 - i) % 8 == 3;
            Check.due("quoted " + i, atlas.quoted(i), gone ? Check.NONE : Check.formOf(19 - i));
        }
    }

    @Holds(of = 19, says = "Throws `IndexOutOfBoundsException` if there is no such quote")
    static void quotedRefusesNoSuchQuote() {
        for (int count : new int[] {0, 1, 19, 20}) {
            DialectAtlas atlas = Check.atlasWith(2);
            for (int i = 0; i < count; i++) {
                atlas.quote(i % 2);
            }
            Check.refusesOutside(0, count - 1, Check.INDEX, atlas::quoted);
        }
    }
}
