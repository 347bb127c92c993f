import java.util.ArrayList;
import java.util.Arrays;

/**
 * A dialect atlas: interviews by place, year and informant, roots and rules of sound change, maps
 * with lines between the forms of places, and the forgetting of informants.
 *
 * <p>A set of interviews is a long: the bit i is that of the interview with the number i.
 */
public final class DialectAtlas {
    public static final int NONE = -1;
    public static final int LOST = -1;
    public static final int END = 8, ANY = 9;

    private static final int INFORMANTS = 8;
    private static final int PLACES = 10;
    private static final int WORDS = 4;
    private static final int SCHOOLS = 3;
    private static final int SOUNDS = 8;
    private static final int YEARS = 301;
    private static final int MOST_SOUNDS = 8;
    private static final int MOST_INTERVIEWS = 40;
    private static final int MOST_RULES = 20;
    private static final int MOST_QUOTES = 20;

    /** A form's number has the sound s as the digit s + 1 to this base, so that no digit is 0. */
    private static final int BASE = 9;

    private final ArrayList<Interview> interviews = new ArrayList<>();
    private final ArrayList<Rule> rules = new ArrayList<>();
    private final ArrayList<Interview> quotes = new ArrayList<>();
    private final int[] roots = new int[WORDS];
    private final int[] keptLines = new int[WORDS];
    private final long[] knownAt = new long[SCHOOLS];
    private final StepCounter stepCounter = new StepCounter();
    private long there = 0;
    private int draft = 0;
    private int draftLength = 0;

    public DialectAtlas() {
        Arrays.fill(roots, NONE);
    }

    // ---- forms and interviews

    public int sound(int sound) throws IndexOutOfBoundsException, IllegalStateException {
        if (isOutside(sound, SOUNDS)) {
            throw new IndexOutOfBoundsException("no such sound");
        }
        if (draftLength >= MOST_SOUNDS) {
            throw new IllegalStateException("the draft has 8 sounds");
        }
        draft = draft * BASE + sound + 1;
        draftLength++;
        return draftLength;
    }

    public int interview(int informant, int place, int year, int word)
            throws IndexOutOfBoundsException, IllegalArgumentException, IllegalStateException {
        if (isOutside(informant, INFORMANTS) || isOutside(place, PLACES) || isOutside(word, WORDS)) {
            throw new IndexOutOfBoundsException("no such informant, place or word");
        }
        if (isOutside(year, YEARS)) {
            throw new IllegalArgumentException("no such year");
        }
        int number = interviews.size();
        if (draftLength == 0 || number >= MOST_INTERVIEWS) {
            throw new IllegalStateException("the draft is empty, or there are 40 interviews");
        }
        long bit = 1L << number;
        interviews.add(new Interview(bit, informant, place, year, word, takeDraft()));
        there |= bit;
        keptLines[word] = drawLines(word);
        return number;
    }

    public int setRoot(int word) throws IndexOutOfBoundsException, IllegalStateException {
        if (isOutside(word, WORDS)) {
            throw new IndexOutOfBoundsException("no such word");
        }
        if (draftLength == 0) {
            throw new IllegalStateException("the draft is empty");
        }
        int before = roots[word];
        roots[word] = takeDraft();
        return before;
    }

    public int form(int interview) throws IndexOutOfBoundsException {
        if (isOutside(interview, interviews.size())) {
            throw new IndexOutOfBoundsException("no such interview");
        }
        return formIfThere(interviews.get(interview));
    }

    // ---- rules

    public int rule(int sound, int to, int behind, int first, int last, int year)
            throws IndexOutOfBoundsException, IllegalArgumentException, IllegalStateException {
        if (isOutside(sound, SOUNDS) || isOutside(first, PLACES) || isOutside(last, PLACES)) {
            throw new IndexOutOfBoundsException("no such sound, or no such place");
        }
        if (to == sound || (to != LOST && isOutside(to, SOUNDS)) || !canStandBehind(behind)) {
            throw new IllegalArgumentException("the sound cannot become that, or not before that");
        }
        if (last < first || isOutside(year, YEARS)) {
            throw new IllegalArgumentException("no such range of places, or no such year");
        }
        int number = rules.size();
        if (number >= MOST_RULES) {
            throw new IllegalStateException("there are 20 rules");
        }
        rules.add(new Rule(sound, to, behind, first, last, year));
        return number;
    }

    public int rest(int rule, int interview) throws IndexOutOfBoundsException, IllegalStateException {
        if (isOutside(rule, rules.size()) || isOutside(interview, interviews.size())) {
            throw new IndexOutOfBoundsException("no such rule or interview");
        }
        Rule resting = rules.get(rule);
        Interview ground = interviews.get(interview);
        if (resting.fallen || !isThere(ground) || resting.restsOn(ground)) {
            throw new IllegalStateException("the rule cannot rest on the interview, or does so");
        }
        resting.grounds |= ground.bit;
        return Long.bitCount(resting.grounds);
    }

    public boolean stands(int rule) throws IndexOutOfBoundsException {
        if (isOutside(rule, rules.size())) {
            throw new IndexOutOfBoundsException("no such rule");
        }
        return !rules.get(rule).fallen;
    }

    public int expected(int word, int place, int year)
            throws IndexOutOfBoundsException, IllegalArgumentException {
        if (isOutside(word, WORDS) || isOutside(place, PLACES)) {
            throw new IndexOutOfBoundsException("no such word or place");
        }
        if (isOutside(year, YEARS)) {
            throw new IllegalArgumentException("no such year");
        }
        return applyRules(roots[word], place, year);
    }

    public int far(int interview) throws IndexOutOfBoundsException {
        if (isOutside(interview, interviews.size())) {
            throw new IndexOutOfBoundsException("no such interview");
        }
        Interview told = interviews.get(interview);
        int root = roots[told.word];
        if (!isThere(told) || root == NONE) {
            return NONE;
        }
        return stepCounter.countSteps(told.form, applyRules(root, told.place, told.year));
    }

    // ---- maps

    public int formAt(int word, int place) throws IndexOutOfBoundsException {
        if (isOutside(word, WORDS) || isOutside(place, PLACES)) {
            throw new IndexOutOfBoundsException("no such word or place");
        }
        return mostToldForm(word, place);
    }

    public int lines(int word) throws IndexOutOfBoundsException {
        if (isOutside(word, WORDS)) {
            throw new IndexOutOfBoundsException("no such word");
        }
        return keptLines[word];
    }

    public int linesByForms(int word) throws IndexOutOfBoundsException {
        if (isOutside(word, WORDS)) {
            throw new IndexOutOfBoundsException("no such word");
        }
        return drawLines(word);
    }

    // ---- forgetting, copies, quotes

    public int forget(int informant) throws IndexOutOfBoundsException {
        if (isOutside(informant, INFORMANTS)) {
            throw new IndexOutOfBoundsException("no such informant");
        }
        long forgotten = interviewsOf(informant);
        there &= ~forgotten;
        for (int i = 0; i < rules.size(); i++) {
            rules.get(i).restNoMoreOn(forgotten);
        }
        for (int word = 0; word < WORDS; word++) {
            keptLines[word] = drawLines(word);
        }
        return Long.bitCount(forgotten);
    }

    public int copy(int school) throws IndexOutOfBoundsException {
        if (isOutside(school, SCHOOLS)) {
            throw new IndexOutOfBoundsException("no such school");
        }
        knownAt[school] = there;
        return Long.bitCount(there);
    }

    public int tell(int school) throws IndexOutOfBoundsException {
        if (isOutside(school, SCHOOLS)) {
            throw new IndexOutOfBoundsException("no such school");
        }
        long owing = knownAt[school] & ~there;
        knownAt[school] &= there;
        return Long.bitCount(owing);
    }

    public int owed(int school) throws IndexOutOfBoundsException {
        if (isOutside(school, SCHOOLS)) {
            throw new IndexOutOfBoundsException("no such school");
        }
        return Long.bitCount(knownAt[school] & ~there);
    }

    public int quote(int interview) throws IndexOutOfBoundsException, IllegalStateException {
        if (isOutside(interview, interviews.size())) {
            throw new IndexOutOfBoundsException("no such interview");
        }
        Interview told = interviews.get(interview);
        int number = quotes.size();
        if (!isThere(told) || number >= MOST_QUOTES) {
            throw new IllegalStateException("the interview is forgotten, or there are 20 quotes");
        }
        quotes.add(told);
        return number;
    }

    public int quoted(int quote) throws IndexOutOfBoundsException {
        if (isOutside(quote, quotes.size())) {
            throw new IndexOutOfBoundsException("no such quote");
        }
        return formIfThere(quotes.get(quote));
    }

    // ---- what the calls share

    private static boolean isOutside(int number, int count) {
        return number < 0 || number >= count;
    }

    private static boolean canStandBehind(int behind) {
        return behind == END || behind == ANY || !isOutside(behind, SOUNDS);
    }

    private int takeDraft() {
        int taken = draft;
        draft = 0;
        draftLength = 0;
        return taken;
    }

    private boolean isThere(Interview told) {
        return (there & told.bit) != 0;
    }

    private int formIfThere(Interview told) {
        return isThere(told) ? told.form : NONE;
    }

    private long interviewsOf(int informant) {
        long found = 0;
        for (int i = 0; i < interviews.size(); i++) {
            Interview told = interviews.get(i);
            if (isThere(told) && told.informant == informant) {
                found |= told.bit;
            }
        }
        return found;
    }

    private int applyRules(int root, int place, int year) {
        if (root == NONE) {
            return NONE;
        }
        int form = root;
        for (int i = 0; i < rules.size(); i++) {
            Rule next = rules.get(i);
            if (next.goesAt(place, year)) {
                form = next.applyTo(form);
            }
        }
        return form;
    }

    private int mostToldForm(int word, int place) {
        int best = NONE;
        int most = 0;
        for (int i = 0; i < interviews.size(); i++) {
            Interview told = interviews.get(i);
            if (isThere(told) && told.isFor(word, place)) {
                int count = countLike(told);
                // Only more interviews win: of forms with equally many, the lowest interview decides.
                if (count > most) {
                    most = count;
                    best = told.form;
                }
            }
        }
        return best;
    }

    private int countLike(Interview pattern) {
        int count = 0;
        for (int i = 0; i < interviews.size(); i++) {
            Interview told = interviews.get(i);
            if (isThere(told) && told.isFor(pattern.word, pattern.place) && told.form == pattern.form) {
                count++;
            }
        }
        return count;
    }

    private int drawLines(int word) {
        int drawn = 0;
        int here = mostToldForm(word, 0);
        for (int place = 0; place + 1 < PLACES; place++) {
            int beyond = mostToldForm(word, place + 1);
            if (here != NONE && beyond != NONE && here != beyond) {
                drawn |= 1 << place;
            }
            here = beyond;
        }
        return drawn;
    }

    private static final class Interview {
        private final long bit;
        private final int informant;
        private final int place;
        private final int year;
        private final int word;
        private final int form;

        private Interview(long bit, int informant, int place, int year, int word, int form) {
            this.bit = bit;
            this.informant = informant;
            this.place = place;
            this.year = year;
            this.word = word;
            this.form = form;
        }

        private boolean isFor(int askedWord, int askedPlace) {
            return word == askedWord && place == askedPlace;
        }
    }

    private static final class Rule {
        private final int sound;
        private final int to;
        private final int behind;
        private final int first;
        private final int last;
        private final int year;
        private long grounds = 0;
        private boolean fallen = false;

        private Rule(int sound, int to, int behind, int first, int last, int year) {
            this.sound = sound;
            this.to = to;
            this.behind = behind;
            this.first = first;
            this.last = last;
            this.year = year;
        }

        private boolean restsOn(Interview ground) {
            return (grounds & ground.bit) != 0;
        }

        private void restNoMoreOn(long forgotten) {
            // A rule that never rested on anything does not fall.
            if ((grounds & forgotten) != 0) {
                grounds &= ~forgotten;
                fallen = grounds == 0;
            }
        }

        private boolean goesAt(int place, int askedYear) {
            return !fallen && first <= place && place <= last && year <= askedYear;
        }

        private boolean changes(int given, int follower) {
            return given == sound && (behind == ANY || behind == follower);
        }

        private int applyTo(int form) {
            int changed = 0;
            int weight = 1;
            int left = form;
            int follower = END;
            // From the last sound on, so that what stands behind each one is known as it was.
            for (int i = 0; i < MOST_SOUNDS && left > 0; i++) {
                int given = left % BASE - 1;
                int becomes = changes(given, follower) ? to : given;
                if (becomes != LOST) {
                    changed += (becomes + 1) * weight;
                    weight *= BASE;
                }
                follower = given;
                left /= BASE;
            }
            return changed == 0 ? form : changed;
        }
    }

    /** Counts the steps between two forms; it keeps one row, so that a call makes no new one. */
    private static final class StepCounter {
        /** At j: the steps from the sounds gone through so far to the last j sounds of the goal. */
        private final int[] row = new int[MOST_SOUNDS + 1];

        private int countSteps(int from, int goal) {
            for (int j = 0; j < row.length; j++) {
                row[j] = j;
            }
            int left = from;
            int steps = row[0];
            // Both forms are gone through from their ends: that makes no form farther or nearer.
            for (int i = 0; i < MOST_SOUNDS && left > 0; i++) {
                steps = goThrough(left % BASE, goal);
                left /= BASE;
            }
            return steps;
        }

        /** Moves the row one sound on, and returns the steps to the whole goal. */
        private int goThrough(int digit, int goal) {
            int before = row[0];
            row[0] = before + 1;
            int steps = row[0];
            int left = goal;
            for (int j = 1; j < row.length && left > 0; j++) {
                int putInPlace = left % BASE == digit ? before : before + 1;
                before = row[j];
                steps = Math.min(putInPlace, Math.min(before, row[j - 1]) + 1);
                row[j] = steps;
                left /= BASE;
            }
            return steps;
        }
    }
}
