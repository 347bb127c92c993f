import java.util.ArrayList;
import java.util.Arrays;
import java.util.HashSet;
import java.util.List;
import java.util.Random;
import java.util.Set;
import java.util.function.Predicate;

/**
 * Long runs of calls with fixed seeds, each answer compared with that of a second program of the
 * same promises, which is written for likeness to the document's words and not for speed.
 */
public final class ModelTests {
    private static final int RUNS = 3000;
    private static final int CALLS = 512;
    private static final String[] NAMES = {"sound", "interview", "setRoot", "form", "rule", "rest",
        "stands", "expected", "far", "formAt", "lines", "linesByForms", "forget", "copy", "tell",
        "owed", "quote", "quoted"};
    /** How often each call comes, for each kind of run: entering much, forgetting much, all alike. */
    private static final int[][] WEIGHTS = {
        {30, 15, 2, 2, 6, 8, 2, 6, 8, 5, 5, 3, 1, 1, 1, 2, 4, 4},
        {20, 10, 2, 2, 3, 12, 4, 4, 5, 4, 5, 3, 6, 4, 3, 6, 4, 4},
        {6, 3, 1, 1, 1, 1, 1, 1, 1, 1, 1, 1, 1, 1, 1, 1, 1, 1}};

    public static void main(String[] args) {
        int wrong = 0;
        Set<String> seen = new HashSet<>();
        for (int seed = 0; seed < RUNS && wrong < 10; seed++) {
            wrong += run(seed, seen);
        }
        wrong += countUnseen(seen);
        System.out.println(wrong == 0 ? "all runs agree" : wrong + " answers are not as due");
        if (wrong != 0) {
            System.exit(1);
        }
    }

    private static int run(int seed, Set<String> seen) {
        Random random = new Random(seed);
        DialectAtlas atlas = new DialectAtlas();
        Model model = new Model();
        StringBuilder told = new StringBuilder();
        int sounds = 2 + random.nextInt(7);
        int informants = 1 + random.nextInt(8);
        for (int i = 0; i < CALLS; i++) {
            int name = pick(random, WEIGHTS[seed % WEIGHTS.length]);
            int[] given = arguments(random, name, sounds, informants);
            String got = answer(() -> ask(atlas, name, given));
            String want = answer(() -> askModel(model, name, given));
            told.append(NAMES[name]).append(Arrays.toString(given)).append(" = ").append(got).append('\n');
            seen.add(NAMES[name] + (want.startsWith("throws") ? " " + want : ""));
            if (!got.equals(want)) {
                System.out.println("seed " + seed + ", due at last is " + want + ":\n" + told);
                return 1;
            }
        }
        return 0;
    }

    /** Says which answers of the face no run has brought about, so that the runs cannot go empty. */
    private static int countUnseen(Set<String> seen) {
        String index = " throws.IndexOutOfBoundsException";
        String argument = " throws.IllegalArgumentException";
        String state = " throws.IllegalStateException";
        List<String> due = new ArrayList<>();
        for (String name : NAMES) {
            due.add(name);
            due.add(name + index);
        }
        due.addAll(List.of("interview" + argument, "rule" + argument, "expected" + argument));
        for (String name : List.of("sound", "interview", "setRoot", "rule", "rest", "quote")) {
            due.add(name + state);
        }
        due.removeAll(seen);
        if (!due.isEmpty()) {
            System.out.println("no run saw " + due);
        }
        return due.size();
    }

    // ---- calls

    private static int pick(Random random, int[] weights) {
        int left = random.nextInt(Arrays.stream(weights).sum());
        int name = 0;
        while (left >= weights[name]) {
            left -= weights[name];
            name++;
        }
        return name;
    }

    /** A number from 0 to count - 1, or seldom one that is out of this range. */
    private static int upTo(Random random, int count) {
        if (random.nextInt(60) == 0) {
            int[] out = {-1, count, -2, count + 1, Integer.MIN_VALUE, Integer.MAX_VALUE};
            return out[random.nextInt(out.length)];
        }
        return random.nextInt(count);
    }

    private static int year(Random random) {
        int[] edges = {0, 1, 100, 150, 299, 300};
        return random.nextInt(20) == 0 ? upTo(random, 301) : edges[random.nextInt(edges.length)];
    }

    private static int[] arguments(Random random, int name, int sounds, int informants) {
        int place = random.nextBoolean() ? upTo(random, 10) : upTo(random, 3);
        int word = random.nextBoolean() ? upTo(random, 4) : 0;
        int number = random.nextBoolean() ? upTo(random, 40) : upTo(random, 15);
        switch (NAMES[name]) {
            case "sound":
                return new int[] {upTo(random, 60) == 1 ? 8 : upTo(random, sounds)};
            case "interview":
                return new int[] {upTo(random, informants), place, year(random), word};
            case "rule":
                return new int[] {upTo(random, sounds), upTo(random, sounds + 1) - 1,
                    random.nextInt(3) == 0 ? 9 : upTo(random, 10),
                    random.nextInt(4) == 0 ? upTo(random, 10) : 0,
                    random.nextInt(4) == 0 ? upTo(random, 10) : 9, year(random)};
            case "rest":
                return new int[] {upTo(random, random.nextBoolean() ? 20 : 4), number};
            case "expected":
                return new int[] {word, place, year(random)};
            case "formAt":
                return new int[] {word, place};
            case "setRoot": case "lines": case "linesByForms":
                return new int[] {word};
            case "forget":
                return new int[] {upTo(random, informants)};
            case "copy": case "tell": case "owed":
                return new int[] {upTo(random, 3)};
            case "stands": case "quoted":
                return new int[] {upTo(random, random.nextBoolean() ? 20 : 4)};
            default:
                return new int[] {number};
        }
    }

    private interface Call {
        int answer();
    }

    private static String answer(Call call) {
        try {
            return Integer.toString(call.answer());
        } catch (RuntimeException thrown) {
            return "throws." + thrown.getClass().getSimpleName();
        }
    }

    private static int ask(DialectAtlas x, int name, int[] a) {
        switch (NAMES[name]) {
            case "sound": return x.sound(a[0]);
            case "interview": return x.interview(a[0], a[1], a[2], a[3]);
            case "setRoot": return x.setRoot(a[0]);
            case "form": return x.form(a[0]);
            case "rule": return x.rule(a[0], a[1], a[2], a[3], a[4], a[5]);
            case "rest": return x.rest(a[0], a[1]);
            case "stands": return x.stands(a[0]) ? 1 : 0;
            case "expected": return x.expected(a[0], a[1], a[2]);
            case "far": return x.far(a[0]);
            case "formAt": return x.formAt(a[0], a[1]);
            case "lines": return x.lines(a[0]);
            case "linesByForms": return x.linesByForms(a[0]);
            case "forget": return x.forget(a[0]);
            case "copy": return x.copy(a[0]);
            case "tell": return x.tell(a[0]);
            case "owed": return x.owed(a[0]);
            case "quote": return x.quote(a[0]);
            default: return x.quoted(a[0]);
        }
    }

    private static int askModel(Model x, int name, int[] a) {
        switch (NAMES[name]) {
            case "sound": return x.sound(a[0]);
            case "interview": return x.interview(a[0], a[1], a[2], a[3]);
            case "setRoot": return x.setRoot(a[0]);
            case "form": return x.form(a[0]);
            case "rule": return x.rule(a);
            case "rest": return x.rest(a[0], a[1]);
            case "stands": return x.stands(a[0]);
            case "expected": return x.expected(a[0], a[1], a[2]);
            case "far": return x.far(a[0]);
            case "formAt": return x.formAt(a[0], a[1]);
            case "lines": case "linesByForms": return x.lines(a[0]);
            case "forget": return x.forget(a[0]);
            case "copy": return x.copy(a[0]);
            case "tell": return x.tell(a[0]);
            case "owed": return x.owed(a[0]);
            case "quote": return x.quote(a[0]);
            default: return x.quoted(a[0]);
        }
    }

    // ---- the second program

    private static final class Told {
        int informant;
        int place;
        int year;
        int word;
        List<Integer> form;
        boolean there = true;
    }

    private static final class Law {
        int[] words;
        boolean fallen = false;
        final Set<Told> grounds = new HashSet<>();
    }

    private static final class Model {
        private final List<Told> interviews = new ArrayList<>();
        private final List<Law> rules = new ArrayList<>();
        private final List<Told> quotes = new ArrayList<>();
        private final List<List<Integer>> roots = new ArrayList<>(Arrays.asList(null, null, null, null));
        private final List<Set<Told>> known = List.of(new HashSet<>(), new HashSet<>(), new HashSet<>());
        private List<Integer> draft = new ArrayList<>();

        int sound(int sound) {
            index(sound, 8);
            state(draft.size() < 8);
            draft.add(sound);
            return draft.size();
        }

        int interview(int informant, int place, int year, int word) {
            index(informant, 8);
            index(place, 10);
            index(word, 4);
            argument(0 <= year && year <= 300);
            state(!draft.isEmpty() && interviews.size() < 40);
            Told told = new Told();
            told.informant = informant;
            told.place = place;
            told.year = year;
            told.word = word;
            told.form = draft;
            draft = new ArrayList<>();
            interviews.add(told);
            return interviews.size() - 1;
        }

        int setRoot(int word) {
            index(word, 4);
            state(!draft.isEmpty());
            List<Integer> before = roots.set(word, draft);
            draft = new ArrayList<>();
            return number(before);
        }

        int form(int interview) {
            index(interview, interviews.size());
            Told told = interviews.get(interview);
            return told.there ? number(told.form) : -1;
        }

        int rule(int[] given) {
            index(given[0], 8);
            index(given[3], 10);
            index(given[4], 10);
            argument(-1 <= given[1] && given[1] <= 7 && given[1] != given[0]);
            argument(0 <= given[2] && given[2] <= 9 && given[3] <= given[4]);
            argument(0 <= given[5] && given[5] <= 300);
            state(rules.size() < 20);
            Law law = new Law();
            law.words = given;
            rules.add(law);
            return rules.size() - 1;
        }

        int rest(int rule, int interview) {
            index(rule, rules.size());
            index(interview, interviews.size());
            Law law = rules.get(rule);
            Told told = interviews.get(interview);
            state(!law.fallen && told.there && !law.grounds.contains(told));
            law.grounds.add(told);
            return law.grounds.size();
        }

        int stands(int rule) {
            index(rule, rules.size());
            return rules.get(rule).fallen ? 0 : 1;
        }

        int expected(int word, int place, int year) {
            index(word, 4);
            index(place, 10);
            argument(0 <= year && year <= 300);
            return number(grown(word, place, year));
        }

        int far(int interview) {
            index(interview, interviews.size());
            Told told = interviews.get(interview);
            List<Integer> grown = grown(told.word, told.place, told.year);
            return told.there && grown != null ? steps(told.form, grown) : -1;
        }

        int formAt(int word, int place) {
            index(word, 4);
            index(place, 10);
            List<List<Integer>> forms = new ArrayList<>();
            for (Told told : interviews) {
                if (told.there && told.word == word && told.place == place) {
                    forms.add(told.form);
                }
            }
            int most = 0;
            for (List<Integer> form : forms) {
                most = Math.max(most, count(forms, form));
            }
            for (List<Integer> form : forms) {
                if (count(forms, form) == most) {
                    return number(form);
                }
            }
            return -1;
        }

        int lines(int word) {
            index(word, 4);
            int lines = 0;
            for (int p = 0; p < 9; p++) {
                boolean both = formAt(word, p) != -1 && formAt(word, p + 1) != -1;
                lines += both && formAt(word, p) != formAt(word, p + 1) ? 1 << p : 0;
            }
            return lines;
        }

        int forget(int informant) {
            index(informant, 8);
            int forgotten = 0;
            for (Told told : interviews) {
                if (told.there && told.informant == informant) {
                    told.there = false;
                    forgotten++;
                }
            }
            for (Law law : rules) {
                if (law.grounds.removeIf(told -> !told.there) && law.grounds.isEmpty()) {
                    law.fallen = true;
                }
            }
            return forgotten;
        }

        int copy(int school) {
            index(school, 3);
            known.get(school).clear();
            known.get(school).addAll(interviews);
            return keep(school, told -> told.there).size();
        }

        int tell(int school) {
            int before = owed(school);
            keep(school, told -> told.there);
            return before;
        }

        int owed(int school) {
            index(school, 3);
            int owed = 0;
            for (Told told : known.get(school)) {
                owed += told.there ? 0 : 1;
            }
            return owed;
        }

        int quote(int interview) {
            index(interview, interviews.size());
            state(interviews.get(interview).there && quotes.size() < 20);
            quotes.add(interviews.get(interview));
            return quotes.size() - 1;
        }

        int quoted(int quote) {
            index(quote, quotes.size());
            Told told = quotes.get(quote);
            return told.there ? number(told.form) : -1;
        }

        private Set<Told> keep(int school, Predicate<Told> which) {
            known.get(school).removeIf(which.negate());
            return known.get(school);
        }

        private List<Integer> grown(int word, int place, int year) {
            List<Integer> form = roots.get(word);
            for (Law law : rules) {
                boolean goes = law.words[3] <= place && place <= law.words[4] && law.words[5] <= year;
                if (form != null && goes && !law.fallen) {
                    form = apply(law.words, form);
                }
            }
            return form;
        }

        private static List<Integer> apply(int[] words, List<Integer> form) {
            List<Integer> changed = new ArrayList<>();
            for (int i = 0; i < form.size(); i++) {
                int behind = i + 1 < form.size() ? form.get(i + 1) : 8;
                boolean meant = form.get(i) == words[0] && (words[2] == 9 || words[2] == behind);
                if (!meant) {
                    changed.add(form.get(i));
                } else if (words[1] != -1) {
                    changed.add(words[1]);
                }
            }
            return changed.isEmpty() ? form : changed;
        }

        private static int steps(List<Integer> from, List<Integer> to) {
            int[][] table = new int[from.size() + 1][to.size() + 1];
            for (int i = 0; i <= from.size(); i++) {
                for (int j = 0; j <= to.size(); j++) {
                    if (i == 0 || j == 0) {
                        table[i][j] = i + j;
                    } else {
                        int other = from.get(i - 1).equals(to.get(j - 1)) ? 0 : 1;
                        int moved = Math.min(table[i - 1][j], table[i][j - 1]) + 1;
                        table[i][j] = Math.min(moved, table[i - 1][j - 1] + other);
                    }
                }
            }
            return table[from.size()][to.size()];
        }

        private static int count(List<List<Integer>> forms, List<Integer> wanted) {
            int count = 0;
            for (List<Integer> form : forms) {
                count += form.equals(wanted) ? 1 : 0;
            }
            return count;
        }

        private static int number(List<Integer> form) {
            if (form == null) {
                return -1;
            }
            int number = 0;
            for (int sound : form) {
                number = number * 9 + sound + 1;
            }
            return number;
        }

        private static void index(int number, int count) {
            if (number < 0 || number >= count) {
                throw new IndexOutOfBoundsException();
            }
        }

        private static void argument(boolean fits) {
            if (!fits) {
                throw new IllegalArgumentException();
            }
        }

        private static void state(boolean fits) {
            if (!fits) {
                throw new IllegalStateException();
            }
        }
    }
}
