import java.util.Arrays;
import java.util.NoSuchElementException;

/** Hints for small programs from the ways that others went; ../shared/DOC.md tells what each call answers. */
public final class Nudgelane {
    public static final int NONE = -1;

    private static final int PLACES = 4;
    private static final int STATEMENTS = 6;
    private static final int CODES = 1296;
    private static final int MOST_ATTEMPTS = 60;
    private static final int MOST_PASSINGS = 300;

    private final Programs programs;
    private final Ways ways;
    private final Attempts attempts;
    private final Worths worths;

    public Nudgelane() {
        programs = new Programs();
        ways = new Ways();
        attempts = new Attempts();
        worths = new Worths();
    }

    // ---- programs

    public int form(int code) throws IndexOutOfBoundsException {
        return checkedForm(code);
    }

    public int edit(int code, int place, int statement) throws IndexOutOfBoundsException, IllegalArgumentException {
        int start = checkedForm(code);
        if (place < 0 || place >= PLACES) {
            throw new IndexOutOfBoundsException("no such place");
        }
        if (statement < 0 || statement >= STATEMENTS) {
            throw new IllegalArgumentException("no such statement");
        }
        return programs.behind(start, place, statement);
    }

    public int neighbours(int code) throws IndexOutOfBoundsException {
        return ways.countBehindOneEdit(programs, checkedForm(code));
    }

    public int distance(int from, int to) throws IndexOutOfBoundsException {
        int start = checkedForm(from);
        int goal = checkedForm(to);
        ways.goOutward(programs, start);
        return ways.editsKnown(goal);
    }

    public int distanceByRounds(int from, int to) throws IndexOutOfBoundsException {
        int start = checkedForm(from);
        int goal = checkedForm(to);
        ways.forget();
        ways.mark(goal);
        ways.settle(programs);
        return ways.editsKnown(start);
    }

    // ---- attempts

    public int begin(int code) throws IndexOutOfBoundsException, IllegalStateException {
        int first = checkedForm(code);
        if (attempts.isUnderWay() || attempts.areAllBegun()) {
            throw new IllegalStateException("an attempt is under way, or no more may begin");
        }
        attempts.start(first);
        return attempts.metCount();
    }

    public int pass(int code) throws IndexOutOfBoundsException, IllegalStateException {
        int next = checkedForm(code);
        if (!attempts.isUnderWay() || attempts.areAllPassed()) {
            throw new IllegalStateException("no attempt is under way, or it may pass no more");
        }
        attempts.moveTo(next);
        return attempts.metCount();
    }

    public int end(boolean isRight) throws IllegalStateException {
        if (!attempts.isUnderWay()) {
            throw new IllegalStateException("no attempt is under way");
        }
        return attempts.finish(isRight);
    }

    public int at() {
        return attempts.current();
    }

    public int met() {
        return attempts.metCount();
    }

    public int passings(int from, int to) throws IndexOutOfBoundsException {
        int start = checkedForm(from);
        int goal = checkedForm(to);
        return attempts.countPassings(start, goal);
    }

    public boolean isRight(int code) throws IndexOutOfBoundsException {
        return attempts.hasEndedRight(checkedForm(code));
    }

    // ---- worths and hints

    public int worth(int code) throws IndexOutOfBoundsException {
        int asked = checkedForm(code);
        worths.find(attempts);
        return worths.of(asked);
    }

    public int steps(int code) throws IndexOutOfBoundsException, NoSuchElementException {
        int asked = checkedForm(code);
        requireSomeRight();
        findSteps();
        return ways.editsKnown(asked);
    }

    public int hint(int code) throws IndexOutOfBoundsException, NoSuchElementException, IllegalStateException {
        int asked = checkedForm(code);
        requireSomeRight();
        if (attempts.hasEndedRight(asked)) {
            throw new IllegalStateException("the program is right");
        }
        findSteps();
        worths.find(attempts);
        return stepNearer(asked);
    }

    public int lead(int code) throws IndexOutOfBoundsException, NoSuchElementException {
        int reached = checkedForm(code);
        requireSomeRight();
        findSteps();
        worths.find(attempts);
        for (int left = ways.editsKnown(reached); left > 0; left--) {
            reached = stepNearer(reached);
        }
        return reached;
    }

    public int nearest(int code) throws IndexOutOfBoundsException, NoSuchElementException {
        int asked = checkedForm(code);
        if (attempts.metCount() == 0) {
            throw new NoSuchElementException("no program was met");
        }
        ways.goOutward(programs, asked);
        int best = NONE;
        int least = Ways.FAR;
        for (int index = 0; index < attempts.metCount(); index++) {
            int other = attempts.metForm(index);
            int edits = ways.editsKnown(other);
            if (edits < least || edits == least && other < best) {
                best = other;
                least = edits;
            }
        }
        return best;
    }

    private int checkedForm(int code) {
        if (code < 0 || code >= CODES) {
            throw new IndexOutOfBoundsException("no such code");
        }
        return programs.formOf(code);
    }

    private void requireSomeRight() {
        if (!attempts.isSomeRight()) {
            throw new NoSuchElementException("no program is right");
        }
    }

    private void findSteps() {
        ways.forget();
        for (int index = 0; index < attempts.metCount(); index++) {
            int form = attempts.metForm(index);
            if (attempts.hasEndedRight(form)) {
                ways.mark(form);
            }
        }
        ways.settle(programs);
    }

    /** Steps and worths must have been found before. */
    private int stepNearer(int form) {
        int wanted = ways.editsKnown(form) - 1;
        int best = form;
        int bestWorth = -1;
        for (int place = 0; place < PLACES; place++) {
            int weight = Programs.weightOf(place);
            int rest = Programs.without(form, place);
            for (int statement = 0; statement < STATEMENTS; statement++) {
                int next = programs.formOf(rest + statement * weight);
                int nextWorth = worths.of(next);
                boolean isBetter = nextWorth > bestWorth || nextWorth == bestWorth && next < best;
                if (ways.editsKnown(next) == wanted && isBetter) {
                    best = next;
                    bestWorth = nextWorth;
                }
            }
        }
        return best;
    }

    /** Numbers in a row; every index is tested here, so that nobody else needs to. */
    private static final class Row {
        private final int[] cells;

        Row(int length) {
            cells = new int[length > 0 ? length : 0];
        }

        int get(int index) {
            return index >= 0 && index < cells.length ? cells[index] : 0;
        }

        void set(int index, int value) {
            if (index >= 0 && index < cells.length) {
                cells[index] = value;
            }
        }

        void add(int index, int more) {
            set(index, get(index) + more);
        }

        void fill(int value) {
            Arrays.fill(cells, value);
        }
    }

    /** The form of every code, and what is behind an edit. */
    private static final class Programs {
        private static final int RULES = 4;
        /** Far above the rewritings that four places can need. */
        private static final int MOST_REWRITINGS = 1000;

        private final Row forms;

        Programs() {
            forms = new Row(CODES);
            Row places = new Row(PLACES);
            for (int code = 0; code < CODES; code++) {
                forms.set(code, reduce(code, places));
            }
        }

        int formOf(int code) {
            return forms.get(code);
        }

        boolean isForm(int code) {
            return forms.get(code) == code;
        }

        int behind(int form, int place, int statement) {
            return formOf(without(form, place) + statement * weightOf(place));
        }

        static int weightOf(int place) {
            int weight = 1;
            for (int later = place + 1; later < PLACES; later++) {
                weight *= STATEMENTS;
            }
            return weight;
        }

        static int without(int code, int place) {
            int weight = weightOf(place);
            return weight > 0 ? code - code / weight % STATEMENTS * weight : code;
        }

        private static int reduce(int code, Row places) {
            unpack(code, places);
            boolean goesOn = true;
            for (int turn = 0; goesOn && turn < MOST_REWRITINGS; turn++) {
                goesOn = rewriteOnce(places);
            }
            return pack(places);
        }

        private static void unpack(int code, Row places) {
            int rest = code;
            for (int place = PLACES - 1; place >= 0; place--) {
                places.set(place, rest % STATEMENTS);
                rest /= STATEMENTS;
            }
        }

        private static int pack(Row places) {
            int code = 0;
            for (int place = 0; place < PLACES; place++) {
                code = code * STATEMENTS + places.get(place);
            }
            return code;
        }

        private static boolean rewriteOnce(Row places) {
            for (int rule = 1; rule <= RULES; rule++) {
                for (int place = 0; place + 1 < PLACES; place++) {
                    if (isUsable(rule, places.get(place), places.get(place + 1))) {
                        use(rule, places, place);
                        return true;
                    }
                }
            }
            return false;
        }

        private static boolean isUsable(int rule, int here, int next) {
            switch (rule) {
                case 1:
                    return here == 0 && next != 0;
                case 2:
                    return here == 5 && next == 4;
                case 3:
                    return here == 3 && next == 3;
                default:
                    return here == 2 && next == 1;
            }
        }

        private static void use(int rule, Row places, int place) {
            int here = places.get(place);
            int next = places.get(place + 1);
            switch (rule) {
                case 1:
                case 2:
                    places.set(place, next);
                    places.set(place + 1, here);
                    break;
                case 3:
                    places.set(place + 1, 0);
                    break;
                default:
                    places.set(place, 0);
                    places.set(place + 1, 0);
                    break;
            }
        }
    }

    /** How many edits lead between forms, as far as the last search has found it. */
    private static final class Ways {
        /** Above every distance: what is not known yet. */
        static final int FAR = 1000000;

        private final Row known;
        private final Row queue;

        Ways() {
            known = new Row(CODES);
            queue = new Row(CODES);
        }

        int editsKnown(int form) {
            return known.get(form);
        }

        void forget() {
            known.fill(FAR);
        }

        void mark(int form) {
            known.set(form, 0);
        }

        int countBehindOneEdit(Programs programs, int form) {
            forget();
            mark(form);
            return queueNewBehind(programs, form, 1);
        }

        void goOutward(Programs programs, int from) {
            forget();
            mark(from);
            queue.set(0, from);
            int queued = 1;
            for (int head = 0; head < queued && head < CODES; head++) {
                queued = queueNewBehind(programs, queue.get(head), queued);
            }
        }

        private int queueNewBehind(Programs programs, int form, int queuedBefore) {
            int queued = queuedBefore;
            for (int place = 0; place < PLACES; place++) {
                int weight = Programs.weightOf(place);
                int rest = Programs.without(form, place);
                for (int statement = 0; statement < STATEMENTS; statement++) {
                    int next = programs.formOf(rest + statement * weight);
                    if (known.get(next) == FAR) {
                        known.set(next, known.get(form) + 1);
                        queue.set(queued, next);
                        queued++;
                    }
                }
            }
            return queued;
        }

        /** Finds how many edits lead from each form to the nearest of the marked ones. */
        void settle(Programs programs) {
            boolean goesOn = true;
            for (int round = 0; goesOn && round < CODES; round++) {
                goesOn = settleOnce(programs);
            }
        }

        private boolean settleOnce(Programs programs) {
            boolean hasChanged = false;
            for (int code = 0; code < CODES; code++) {
                if (programs.isForm(code)) {
                    int edits = leastBehind(programs, code) + 1;
                    if (edits < known.get(code)) {
                        known.set(code, edits);
                        hasChanged = true;
                    }
                }
            }
            return hasChanged;
        }

        private int leastBehind(Programs programs, int form) {
            int least = FAR;
            for (int place = 0; place < PLACES; place++) {
                int weight = Programs.weightOf(place);
                int rest = Programs.without(form, place);
                for (int statement = 0; statement < STATEMENTS; statement++) {
                    least = Math.min(least, known.get(programs.formOf(rest + statement * weight)));
                }
            }
            return least;
        }
    }

    /** What the attempts did, all told in forms. */
    private static final class Attempts {
        private final Row froms;
        private final Row tos;
        private final Row leavings;
        private final Row rightEnds;
        private final Row metMarks;
        private final Row metForms;
        private int metTotal;
        private int begun;
        private int passed;
        private int here;
        private boolean someRight;

        Attempts() {
            froms = new Row(MOST_PASSINGS);
            tos = new Row(MOST_PASSINGS);
            leavings = new Row(CODES);
            rightEnds = new Row(CODES);
            metMarks = new Row(CODES);
            metForms = new Row(MOST_ATTEMPTS + MOST_PASSINGS);
            here = NONE;
        }

        boolean isUnderWay() {
            return here != NONE;
        }

        boolean areAllBegun() {
            return begun >= MOST_ATTEMPTS;
        }

        boolean areAllPassed() {
            return passed >= MOST_PASSINGS;
        }

        void start(int form) {
            begun++;
            meet(form);
        }

        void moveTo(int form) {
            froms.set(passed, here);
            tos.set(passed, form);
            passed++;
            leavings.add(here, 1);
            meet(form);
        }

        private void meet(int form) {
            here = form;
            if (metMarks.get(form) == 0) {
                metMarks.set(form, 1);
                metForms.set(metTotal, form);
                metTotal++;
            }
        }

        int finish(boolean endsRight) {
            int last = here;
            leavings.add(last, 1);
            if (endsRight) {
                rightEnds.add(last, 1);
                someRight = true;
            }
            here = NONE;
            return last;
        }

        int current() {
            return here;
        }

        int metCount() {
            return metTotal;
        }

        /** The forms that were met, in the order in which they were met first. */
        int metForm(int index) {
            return metForms.get(index);
        }

        boolean isSomeRight() {
            return someRight;
        }

        boolean hasEndedRight(int form) {
            return rightEnds.get(form) > 0;
        }

        int rightEndings(int form) {
            return rightEnds.get(form);
        }

        /** Passings from a form and endings with it. */
        int leavingsOf(int form) {
            return leavings.get(form);
        }

        int passedCount() {
            return passed;
        }

        int fromOf(int passing) {
            return froms.get(passing);
        }

        int toOf(int passing) {
            return tos.get(passing);
        }

        int countPassings(int from, int to) {
            int count = 0;
            for (int passing = 0; passing < passed; passing++) {
                if (fromOf(passing) == from && toOf(passing) == to) {
                    count++;
                }
            }
            return count;
        }
    }

    /** The chance to come from a program to a right one, in millionths. */
    private static final class Worths {
        private static final int ROUNDS = 60;
        private static final int CERTAIN = 1000000;

        private final Row worthNow;
        private final Row sums;

        Worths() {
            worthNow = new Row(CODES);
            sums = new Row(CODES);
        }

        int of(int form) {
            return worthNow.get(form);
        }

        void find(Attempts attempts) {
            worthNow.fill(0);
            for (int round = 0; round < ROUNDS; round++) {
                addUp(attempts);
                share(attempts);
            }
        }

        private void addUp(Attempts attempts) {
            for (int index = 0; index < attempts.metCount(); index++) {
                int form = attempts.metForm(index);
                sums.set(form, attempts.rightEndings(form) * CERTAIN);
            }
            for (int passing = 0; passing < attempts.passedCount(); passing++) {
                sums.add(attempts.fromOf(passing), worthNow.get(attempts.toOf(passing)));
            }
        }

        private void share(Attempts attempts) {
            for (int index = 0; index < attempts.metCount(); index++) {
                int form = attempts.metForm(index);
                int parts = attempts.leavingsOf(form);
                worthNow.set(form, parts > 0 ? sums.get(form) / parts : 0);
            }
        }
    }
}
