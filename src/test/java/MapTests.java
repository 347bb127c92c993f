/** Promises 11 to 13: formAt, lines and linesByForms. */
public final class MapTests {
    private static final String FORM = "Returns the form; NONE if there is none.";
    private static final String FORM_INDEX = "Throws `IndexOutOfBoundsException` if there is no such word or"
        + " place";
    private static final String SET = "Returns a set: the bit p for a line between the places p and p + 1.";
    private static final String WORD = "- `word`: 0 to 3";
    private static final String WORD_INDEX = "Throws `IndexOutOfBoundsException` if there is no such word";
    private static final String SAME = "Returns the same, found from all interviews that are there.";

    public static void main(String[] args) {
        Check.runAll(MapTests.class);
    }

    /** Enters a form at the places 0 to 9, the one at a place of the informant place % 8. */
    private static DialectAtlas atlasOf(int word, int... sounds) {
        DialectAtlas atlas = new DialectAtlas();
        for (int place = 0; place < sounds.length; place++) {
            Check.enter(atlas, place % 8, place, word, sounds[place]);
        }
        return atlas;
    }

    // ---- promise 11: formAt

    @Holds(of = 11, says = "Returns the form of a word at a place.")
    static void formAtIsThatOfMostInterviews() {
        DialectAtlas atlas = new DialectAtlas();
        Check.enter(atlas, 0, 4, 1, 5);
        Check.enter(atlas, 1, 4, 1, 3, 3);
        Check.due("one and one", atlas.formAt(1, 4), 6);
        Check.enter(atlas, 2, 4, 1, 3, 3);
        Check.due("one and two", atlas.formAt(1, 4), Check.number(3, 3));
        atlas.forget(1);
        Check.due("one and one", atlas.formAt(1, 4), 6);
        atlas.forget(0);
        Check.due("none and one", atlas.formAt(1, 4), Check.number(3, 3));
    }

    @Holds(of = 11, says = "Returns the form of a word at a place.")
    static void formAtCountsUpToForty() {
        DialectAtlas atlas = new DialectAtlas();
        for (int i = 0; i < 20; i++) {
            Check.enter(atlas, 0, 9, 3, 5);
        }
        for (int i = 0; i < 20; i++) {
            Check.enter(atlas, 1, 9, 3, 6);
        }
        Check.due("twenty and twenty", atlas.formAt(3, 9), 6);
        atlas.forget(0);
        Check.due("none and twenty", atlas.formAt(3, 9), 7);
    }

    @Holds(of = 11, says = WORD)
    static void wordOfFormAtIsFrom0To3() {
        DialectAtlas atlas = new DialectAtlas();
        Check.enter(atlas, 0, 4, 0, 5);
        Check.enter(atlas, 0, 4, 3, 6);
        Check.due("0", atlas.formAt(0, 4), 6);
        Check.due("3", atlas.formAt(3, 4), 7);
    }

    @Holds(of = 11, says = "- `place`: 0 to 9")
    static void placeOfFormAtIsFrom0To9() {
        DialectAtlas atlas = atlasOf(2, 0, 1, 2, 3, 4, 5, 6, 7, 0, 1);
        for (int place = 0; place < 10; place++) {
            Check.due("at " + place, atlas.formAt(2, place), place % 8 + 1);
        }
    }

    @Holds(of = 11, says = FORM)
    static void formAtReturnsLeastAndGreatestForms() {
        DialectAtlas atlas = new DialectAtlas();
        Check.enter(atlas, 0, 0, 0, 0);
        Check.enter(atlas, 0, 1, 0, 7, 7, 7, 7, 7, 7, 7, 7);
        Check.due("the least", atlas.formAt(0, 0), 1);
        Check.due("the greatest", atlas.formAt(0, 1), Check.LONGEST);
    }

    @Holds(of = 11, says = FORM)
    static void formAtIsNoneIfThereIsNone() {
        DialectAtlas atlas = new DialectAtlas();
        Check.due("a new atlas", atlas.formAt(1, 4), Check.NONE);
        Check.enter(atlas, 0, 4, 1, 5);
        Check.due("another place", atlas.formAt(1, 5), Check.NONE);
        Check.due("another word", atlas.formAt(2, 4), Check.NONE);
        atlas.forget(0);
        Check.due("all forgotten", atlas.formAt(1, 4), Check.NONE);
    }

    @Holds(of = 11, says = FORM_INDEX)
    static void formAtRefusesNoSuchWord() {
        DialectAtlas atlas = atlasOf(3, 0, 1);
        Check.refusesOutside(0, 3, Check.INDEX, n -> atlas.formAt(n, 0));
    }

    @Holds(of = 11, says = FORM_INDEX)
    static void formAtRefusesNoSuchPlace() {
        DialectAtlas atlas = atlasOf(3, 0, 1);
        Check.refusesOutside(0, 9, Check.INDEX, n -> atlas.formAt(3, n));
    }

    // ---- promise 12: lines

    @Holds(of = 12, says = "Returns the lines of a word, as they are kept.")
    static void linesAreKeptAtEachInterview() {
        DialectAtlas atlas = new DialectAtlas();
        Check.enter(atlas, 0, 3, 0, 1);
        Check.due("a place alone", atlas.lines(0), 0);
        Check.enter(atlas, 1, 4, 0, 2);
        Check.due("a line comes", atlas.lines(0), 1 << 3);
        Check.enter(atlas, 2, 4, 0, 1);
        Check.due("it stays, one and one", atlas.lines(0), 1 << 3);
        Check.enter(atlas, 3, 4, 0, 1);
        Check.due("it goes, one and two", atlas.lines(0), 0);
        Check.enter(atlas, 4, 5, 0, 2);
        Check.due("another one comes", atlas.lines(0), 1 << 4);
    }

    @Holds(of = 12, says = "Returns the lines of a word, as they are kept.")
    static void linesAreKeptAtEachForgetting() {
        DialectAtlas atlas = new DialectAtlas();
        for (int word = 0; word < 4; word++) {
            Check.enter(atlas, 0, 8, word, 1);
            Check.enter(atlas, 1, 9, word, 2);
            Check.enter(atlas, 2, 9, word, 1);
        }
        for (int word = 0; word < 4; word++) {
            Check.due("before, word " + word, atlas.lines(word), 1 << 8);
        }
        atlas.forget(1);
        for (int word = 0; word < 4; word++) {
            Check.due("a line goes, word " + word, atlas.lines(word), 0);
        }
    }

    @Holds(of = 12, says = "Returns the lines of a word, as they are kept.")
    static void linesComeByForgettingToo() {
        DialectAtlas atlas = new DialectAtlas();
        Check.enter(atlas, 0, 4, 2, 1);
        Check.enter(atlas, 1, 5, 2, 1);
        Check.enter(atlas, 2, 5, 2, 2);
        Check.due("before", atlas.lines(2), 0);
        atlas.forget(1);
        Check.due("a line comes", atlas.lines(2), 1 << 4);
    }

    @Holds(of = 12, says = WORD)
    static void wordOfLinesIsFrom0To3() {
        Check.due("0", atlasOf(0, 1, 2).lines(0), 1);
        Check.due("3", atlasOf(3, 1, 2).lines(3), 1);
        Check.due("2, of a line of 3", atlasOf(3, 1, 2).lines(2), 0);
    }

    @Holds(of = 12, says = SET)
    static void linesAreBitsFrom0To8() {
        Check.due("all", atlasOf(0, 0, 1, 0, 1, 0, 1, 0, 1, 0, 1).lines(0), 0x1FF);
        Check.due("none", atlasOf(0, 1, 1, 1, 1, 1, 1, 1, 1, 1, 1).lines(0), 0);
        Check.due("the first", atlasOf(0, 2, 1, 1, 1, 1, 1, 1, 1, 1, 1).lines(0), 1);
        Check.due("the last", atlasOf(0, 1, 1, 1, 1, 1, 1, 1, 1, 1, 2).lines(0), 1 << 8);
        Check.due("two about 4", atlasOf(0, 1, 1, 1, 1, 2, 1, 1, 1, 1, 1).lines(0), 3 << 3);
    }

    @Holds(of = 12, says = WORD_INDEX)
    static void linesRefusesNoSuchWord() {
        Check.refusesOutside(0, 3, Check.INDEX, atlasOf(3, 0, 1)::lines);
    }

    // ---- promise 13: linesByForms

    @Holds(of = 13, says = SAME)
    static void linesByFormsAreTheSameAsLines() {
        DialectAtlas atlas = new DialectAtlas();
        for (int i = 0; i < 40; i++) {
            Check.enter(atlas, i * 3 % 8, i * 7 % 10, i % 2, i * i % 3);
            if (i % 6 == 5) {
                atlas.forget(i % 8);
            }
            for (int word = 0; word < 2; word++) {
                Check.due("lines, word " + word, atlas.lines(word), atlas.linesByForms(word));
            }
        }
    }

    @Holds(of = 13, says = SAME)
    static void linesByFormsAreFoundFromInterviewsThatAreThere() {
        DialectAtlas atlas = new DialectAtlas();
        Check.enter(atlas, 0, 3, 0, 1);
        Check.due("a place alone", atlas.linesByForms(0), 0);
        Check.enter(atlas, 1, 4, 0, 2);
        Check.due("a line comes", atlas.linesByForms(0), 1 << 3);
        Check.enter(atlas, 2, 4, 0, 1);
        Check.enter(atlas, 2, 4, 0, 1);
        Check.due("it goes, one and two", atlas.linesByForms(0), 0);
        atlas.forget(2);
        Check.due("it comes again", atlas.linesByForms(0), 1 << 3);
        atlas.forget(0);
        Check.due("none at 3", atlas.linesByForms(0), 0);
    }

    @Holds(of = 13, says = WORD)
    static void wordOfLinesByFormsIsFrom0To3() {
        Check.due("0", atlasOf(0, 1, 2).linesByForms(0), 1);
        Check.due("3", atlasOf(3, 1, 2).linesByForms(3), 1);
        Check.due("2, of a line of 3", atlasOf(3, 1, 2).linesByForms(2), 0);
    }

    @Holds(of = 13, says = SET)
    static void linesByFormsAreBitsFrom0To8() {
        Check.due("all", atlasOf(0, 0, 1, 0, 1, 0, 1, 0, 1, 0, 1).linesByForms(0), 0x1FF);
        Check.due("none", atlasOf(0, 1, 1, 1, 1, 1, 1, 1, 1, 1, 1).linesByForms(0), 0);
        Check.due("the first", atlasOf(0, 2, 1, 1, 1, 1, 1, 1, 1, 1, 1).linesByForms(0), 1);
        Check.due("the last", atlasOf(0, 1, 1, 1, 1, 1, 1, 1, 1, 1, 2).linesByForms(0), 1 << 8);
        Check.due("two about 4", atlasOf(0, 1, 1, 1, 1, 2, 1, 1, 1, 1, 1).linesByForms(0), 3 << 3);
    }

    @Holds(of = 13, says = WORD_INDEX)
    static void linesByFormsRefusesNoSuchWord() {
        Check.refusesOutside(0, 3, Check.INDEX, atlasOf(3, 0, 1)::linesByForms);
    }
}
