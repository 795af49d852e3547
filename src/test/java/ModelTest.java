import java.util.ArrayDeque;
import java.util.ArrayList;
import java.util.HashMap;
import java.util.List;
import java.util.Map;
import java.util.NoSuchElementException;
import java.util.Set;
import java.util.TreeMap;
import java.util.TreeSet;

/** Compares long runs of calls with a second, slow telling of the document that shares no code with the class. */
public final class ModelTest {
    private static final int CODES = 1296;
    private static int wrong = 0;

    private static void due(String what, long got, long want) {
        if (got != want) {
            wrong++;
            if (wrong < 50) {
                System.out.println(what + " answered " + got + ", due is " + want);
            }
        }
    }

    /** Programs as texts of four signs. */
    private static final class Texts {
        private static final String[][] RULES = {
            {"01", "10"}, {"02", "20"}, {"03", "30"}, {"04", "40"}, {"05", "50"},
            {"54", "45"}, {"33", "30"}, {"21", "00"},
        };
        final int[] forms = new int[CODES];
        final Map<Integer, TreeSet<Integer>> behind = new TreeMap<>();
        final Map<Integer, Map<Integer, Integer>> distances = new HashMap<>();

        Texts() {
            for (int code = 0; code < CODES; code++) {
                forms[code] = Integer.parseInt(reduced(text(code)), 6);
            }
            for (int code = 0; code < CODES; code++) {
                if (forms[code] == code) {
                    behind.put(code, allBehind(code));
                }
            }
            for (int form : behind.keySet()) {
                distances.put(form, distancesFrom(form));
            }
        }

        static String text(int code) {
            String digits = "000" + Integer.toString(code, 6);
            return digits.substring(digits.length() - 4);
        }

        private static String reduced(String program) {
            String text = program;
            boolean found = true;
            while (found) {
                found = false;
                for (int rule = 0; rule < RULES.length && !found; rule++) {
                    int place = rule < 5 ? firstGap(text) : text.indexOf(RULES[rule][0]);
                    if (place >= 0 && text.startsWith(RULES[rule][0], place)) {
                        text = text.substring(0, place) + RULES[rule][1] + text.substring(place + 2);
                        found = true;
                    }
                }
            }
            return text;
        }

        private static int firstGap(String text) {
            for (int place = 0; place < 3; place++) {
                if (text.charAt(place) == '0' && text.charAt(place + 1) != '0') {
                    return place;
                }
            }
            return -1;
        }

        int edited(int form, int place, int statement) {
            StringBuilder text = new StringBuilder(text(form));
            text.setCharAt(place, (char) ('0' + statement));
            return forms[Integer.parseInt(text.toString(), 6)];
        }

        private TreeSet<Integer> allBehind(int form) {
            TreeSet<Integer> all = new TreeSet<>();
            for (int place = 0; place < 4; place++) {
                for (int statement = 0; statement < 6; statement++) {
                    all.add(edited(form, place, statement));
                }
            }
            return all;
        }

        private Map<Integer, Integer> distancesFrom(int form) {
            Map<Integer, Integer> found = new HashMap<>();
            ArrayDeque<Integer> queue = new ArrayDeque<>();
            found.put(form, 0);
            queue.add(form);
            while (!queue.isEmpty()) {
                int here = queue.remove();
                for (int next : behind.get(here)) {
                    if (!found.containsKey(next)) {
                        found.put(next, found.get(here) + 1);
                        queue.add(next);
                    }
                }
            }
            return found;
        }
    }

    /** What the document says of attempts, told anew for every question from all attempts' ways. */
    private static final class Model {
        final Texts texts;
        final List<List<Integer>> attempts = new ArrayList<>();
        final List<Boolean> endedRight = new ArrayList<>();
        boolean underWay;

        Model(Texts texts) {
            this.texts = texts;
        }

        int passed() {
            int count = 0;
            for (List<Integer> attempt : attempts) {
                count += attempt.size() - 1;
            }
            return count;
        }

        List<Integer> lastAttempt() {
            return attempts.get(attempts.size() - 1);
        }

        int lastOf(List<Integer> attempt) {
            return attempt.get(attempt.size() - 1);
        }

        TreeSet<Integer> metOnes() {
            TreeSet<Integer> all = new TreeSet<>();
            for (List<Integer> attempt : attempts) {
                all.addAll(attempt);
            }
            return all;
        }

        TreeSet<Integer> rightOnes() {
            TreeSet<Integer> all = new TreeSet<>();
            for (int i = 0; i < endedRight.size(); i++) {
                if (endedRight.get(i)) {
                    all.add(lastOf(attempts.get(i)));
                }
            }
            return all;
        }

        int countPassings(int from, int to) {
            int count = 0;
            for (List<Integer> attempt : attempts) {
                for (int i = 1; i < attempt.size(); i++) {
                    if (attempt.get(i - 1) == from && attempt.get(i) == to) {
                        count++;
                    }
                }
            }
            return count;
        }

        Map<Integer, Long> worths() {
            Map<Integer, Long> before = new HashMap<>();
            for (int round = 0; round < 60; round++) {
                before = worthsBehindARound(before);
            }
            return before;
        }

        private Map<Integer, Long> worthsBehindARound(Map<Integer, Long> before) {
            Map<Integer, Long> sums = new HashMap<>();
            Map<Integer, Long> parts = new HashMap<>();
            for (int a = 0; a < attempts.size(); a++) {
                List<Integer> attempt = attempts.get(a);
                for (int i = 0; i + 1 < attempt.size(); i++) {
                    sums.merge(attempt.get(i), before.getOrDefault(attempt.get(i + 1), 0L), Long::sum);
                    parts.merge(attempt.get(i), 1L, Long::sum);
                }
                if (a < endedRight.size()) {
                    sums.merge(lastOf(attempt), endedRight.get(a) ? 1000000L : 0L, Long::sum);
                    parts.merge(lastOf(attempt), 1L, Long::sum);
                }
            }
            Map<Integer, Long> after = new HashMap<>();
            for (int form : parts.keySet()) {
                after.put(form, sums.get(form) / parts.get(form));
            }
            return after;
        }

        int stepsOf(int form) {
            int least = Integer.MAX_VALUE;
            for (int right : rightOnes()) {
                least = Math.min(least, texts.distances.get(form).get(right));
            }
            return least;
        }

        int hintOf(int form, Map<Integer, Long> worths) {
            int wanted = stepsOf(form) - 1;
            int best = -1;
            for (int next : texts.behind.get(form)) {
                if (stepsOf(next) == wanted
                    && (best < 0 || worths.getOrDefault(next, 0L) > worths.getOrDefault(best, 0L))) {
                    best = next;
                }
            }
            return best;
        }

        int leadOf(int form) {
            Map<Integer, Long> worths = worths();
            int here = form;
            while (!rightOnes().contains(here)) {
                here = hintOf(here, worths);
            }
            return here;
        }

        int nearestOf(int form) {
            int best = -1;
            for (int other : metOnes()) {
                if (best < 0 || texts.distances.get(form).get(other) < texts.distances.get(form).get(best)) {
                    best = other;
                }
            }
            return best;
        }
    }

    /** The same numbers in every run of the test. */
    private static final class Dice {
        private long state;

        Dice(long seed) {
            state = seed * 2862933555777941757L + 3037000493L;
        }

        int below(int bound) {
            state = state * 6364136223846793005L + 1442695040888963407L;
            return (int) ((state >>> 33) % bound);
        }
    }

    private static void compareForms(Texts texts) {
        Nudgelane x = null;
        for (int code = 0; code < CODES; code++) {
            if (code % 18 == 0) {
                x = new Nudgelane();
            }
            int form = texts.forms[code];
            due("form(" + code + ")", x.form(code), form);
            due("neighbours(" + code + ")", x.neighbours(code), texts.behind.get(form).size());
            for (int place = 0; place < 4; place++) {
                for (int statement = 0; statement < 6; statement++) {
                    due("edit(" + code + ", " + place + ", " + statement + ")",
                        x.edit(code, place, statement), texts.edited(form, place, statement));
                }
            }
        }
    }

    private static void compareDistances(Texts texts) {
        Dice dice = new Dice(7);
        Nudgelane x = null;
        for (int turn = 0; turn < 6000; turn++) {
            if (turn % 250 == 0) {
                x = new Nudgelane();
            }
            int from = turn % CODES;
            int to = dice.below(CODES);
            int want = texts.distances.get(texts.forms[from]).get(texts.forms[to]);
            due("distance(" + from + ", " + to + ")", x.distance(from, to), want);
            due("distanceByRounds(" + from + ", " + to + ")", x.distanceByRounds(from, to), want);
        }
    }

    private static final int INDEX = -101;
    private static final int ELEMENT = -102;
    private static final int STATE = -103;

    private interface Answer {
        int get();
    }

    private static int answered(Answer answer) {
        try {
            return answer.get();
        } catch (IndexOutOfBoundsException e) {
            return INDEX;
        } catch (NoSuchElementException e) {
            return ELEMENT;
        } catch (IllegalStateException e) {
            return STATE;
        }
    }

    private static int tell(Model m, int kind, int form) {
        if (kind == 0) {
            if (form < 0) {
                return INDEX;
            }
            if (m.underWay || m.attempts.size() >= 60) {
                return STATE;
            }
            m.attempts.add(new ArrayList<>(List.of(form)));
            m.underWay = true;
            return m.metOnes().size();
        }
        if (kind == 1) {
            if (form < 0) {
                return INDEX;
            }
            if (!m.underWay || m.passed() >= 300) {
                return STATE;
            }
            m.lastAttempt().add(form);
            return m.metOnes().size();
        }
        if (!m.underWay) {
            return STATE;
        }
        m.endedRight.add(kind == 3);
        m.underWay = false;
        return m.lastOf(m.lastAttempt());
    }

    private static int tell(Nudgelane x, int kind, int code) {
        return answered(() -> kind == 0 ? x.begin(code) : kind == 1 ? x.pass(code) : x.end(kind == 3));
    }

    private static int ask(Model m, int kind, int form, int other) {
        if (kind == 0) {
            return m.underWay ? m.lastOf(m.lastAttempt()) : Nudgelane.NONE;
        }
        if (kind == 1) {
            return m.metOnes().size();
        }
        if (form < 0 || kind == 2 && other < 0) {
            return INDEX;
        }
        if (kind == 2) {
            return m.countPassings(form, other);
        }
        Set<Integer> right = m.rightOnes();
        if (kind == 3) {
            return right.contains(form) ? 1 : 0;
        }
        if (kind == 4) {
            return (int) (long) m.worths().getOrDefault(form, 0L);
        }
        if (kind == 5) {
            return right.isEmpty() ? ELEMENT : m.stepsOf(form);
        }
        if (kind == 6) {
            return right.isEmpty() ? ELEMENT : right.contains(form) ? STATE : m.hintOf(form, m.worths());
        }
        if (kind == 7) {
            return right.isEmpty() ? ELEMENT : m.leadOf(form);
        }
        return m.metOnes().isEmpty() ? ELEMENT : m.nearestOf(form);
    }

    private static int ask(Nudgelane x, int kind, int code, int other) {
        return answered(() -> {
            switch (kind) {
                case 0:
                    return x.at();
                case 1:
                    return x.met();
                case 2:
                    return x.passings(code, other);
                case 3:
                    return x.isRight(code) ? 1 : 0;
                case 4:
                    return x.worth(code);
                case 5:
                    return x.steps(code);
                case 6:
                    return x.hint(code);
                case 7:
                    return x.lead(code);
                default:
                    return x.nearest(code);
            }
        });
    }

    private static int someCode(Dice dice, int[] pool) {
        int kind = dice.below(20);
        if (kind == 0) {
            return dice.below(2) == 0 ? -1 - dice.below(5) : CODES + dice.below(5);
        }
        return kind < 14 ? pool[dice.below(pool.length)] : dice.below(CODES);
    }

    private static int formOrNone(Texts texts, int code) {
        return code >= 0 && code < CODES ? texts.forms[code] : -1;
    }

    /** Mostly tells at first, so that the runs come to their limits; the pool lets programs come again. */
    private static void compareRun(Texts texts, int seed) {
        Dice dice = new Dice(seed);
        int[] pool = new int[3 + dice.below(20)];
        for (int i = 0; i < pool.length; i++) {
            pool[i] = dice.below(CODES);
        }
        int passes = 1 + dice.below(12);
        int asks = 1 + dice.below(8);
        Nudgelane x = new Nudgelane();
        Model m = new Model(texts);
        for (int call = 0; call < 512; call++) {
            int code = someCode(dice, pool);
            int other = someCode(dice, pool);
            int form = formOrNone(texts, code);
            if (dice.below(10) >= asks) {
                int kind = dice.below(passes + 3);
                kind = kind < 3 ? kind == 0 ? 0 : kind + 1 : 1;
                due("seed " + seed + " call " + call + " tell " + kind + " of " + code,
                    tell(x, kind, code), tell(m, kind, form));
            } else {
                int kind = dice.below(9);
                due("seed " + seed + " call " + call + " ask " + kind + " of " + code + ", " + other,
                    ask(x, kind, code, other), ask(m, kind, form, formOrNone(texts, other)));
            }
        }
    }

    public static void main(String[] args) {
        Texts texts = new Texts();
        compareForms(texts);
        compareDistances(texts);
        for (int seed = 1; seed <= 60; seed++) {
            compareRun(texts, seed);
        }
        System.out.println(wrong == 0 ? "all answers are as due" : wrong + " answers are not as due");
        if (wrong != 0) {
            System.exit(1);
        }
    }
}
