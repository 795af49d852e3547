/** Each promise of the document by hand: ordinary inputs, the named edges, wrong inputs. */
public final class PromisesTest {
    private static final int NOTHING = 0;
    private static final int INDEX = 1;
    private static final int ELEMENT = 2;
    private static final int STATE = 3;
    private static final int ARGUMENT = 4;
    private static final int[] NO_CODES = {-1, 1296, 1297, Integer.MIN_VALUE, Integer.MAX_VALUE};
    private static int wrong = 0;

    private interface Call {
        void make();
    }

    private static void due(String what, long got, long want) {
        if (got != want) {
            wrong++;
            System.out.println(what + " answered " + got + ", due is " + want);
        }
    }

    private static void due(String what, boolean got, boolean want) {
        due(what, got ? 1 : 0, want ? 1 : 0);
    }

    private static int thrownBy(Call call) {
        try {
            call.make();
            return NOTHING;
        } catch (RuntimeException e) {
            if (e.getClass() == IndexOutOfBoundsException.class) {
                return INDEX;
            }
            if (e.getClass() == java.util.NoSuchElementException.class) {
                return ELEMENT;
            }
            if (e.getClass() == IllegalStateException.class) {
                return STATE;
            }
            return e.getClass() == IllegalArgumentException.class ? ARGUMENT : -1;
        }
    }

    private static void dueThrow(String what, Call call, int want) {
        due(what + " (thrown: 1 index, 2 element, 3 state, 4 argument)", thrownBy(call), want);
    }

    private static int code(int a, int b, int c, int d) {
        return ((a * 6 + b) * 6 + c) * 6 + d;
    }

    private static void promise1NewObject() {
        Nudgelane x = new Nudgelane();
        due("new at", x.at(), Nudgelane.NONE);
        due("new met", x.met(), 0);
        due("new isRight", x.isRight(0), false);
        due("new worth", x.worth(0), 0);
        due("new passings", x.passings(0, 0), 0);
        dueThrow("new end", () -> x.end(true), STATE);
        dueThrow("new pass", () -> x.pass(0), STATE);
        Nudgelane y = new Nudgelane();
        y.begin(216);
        due("another object's met", x.met(), 0);
        due("another object's at", x.at(), Nudgelane.NONE);
    }

    private static void promise2Form() {
        Nudgelane x = new Nudgelane();
        due("form of nothing", x.form(0), 0);
        due("form of a form", x.form(code(1, 2, 3, 4)), code(1, 2, 3, 4));
        due("rule 1", x.form(code(0, 0, 0, 1)), code(1, 0, 0, 0));
        due("rule 1 in between", x.form(code(1, 0, 4, 0)), code(1, 4, 0, 0));
        due("rule 2", x.form(code(5, 4, 0, 0)), code(4, 5, 0, 0));
        due("rule 2 again and again", x.form(code(5, 5, 4, 4)), code(4, 4, 5, 5));
        due("rule 2 not the other way", x.form(code(4, 5, 0, 0)), code(4, 5, 0, 0));
        due("rule 3", x.form(code(3, 3, 0, 0)), code(3, 0, 0, 0));
        due("rule 3 and 1", x.form(code(3, 3, 3, 1)), code(3, 1, 0, 0));
        due("rule 4", x.form(code(2, 1, 0, 0)), 0);
        due("rule 4 not the other way", x.form(code(1, 2, 0, 0)), code(1, 2, 0, 0));
        due("rule 4 twice", x.form(code(2, 2, 1, 1)), 0);
        due("rule 4 behind rule 1", x.form(code(2, 0, 0, 1)), 0);
        due("rule 3 behind rule 4", x.form(code(3, 2, 1, 3)), code(3, 0, 0, 0));
        due("the last code", x.form(1295), 1295);
        for (int bad : NO_CODES) {
            dueThrow("form(" + bad + ")", () -> x.form(bad), INDEX);
        }
    }

    private static void promise3Edit() {
        Nudgelane x = new Nudgelane();
        due("edit of nothing at 0", x.edit(0, 0, 1), code(1, 0, 0, 0));
        due("edit of nothing at 3", x.edit(0, 3, 5), code(5, 0, 0, 0));
        due("edit away", x.edit(code(1, 4, 5, 0), 0, 0), code(4, 5, 0, 0));
        due("edit that changes nothing", x.edit(code(1, 4, 5, 0), 1, 4), code(1, 4, 5, 0));
        due("edit then rule 4", x.edit(code(2, 3, 0, 0), 1, 1), 0);
        due("edit of the form, not of the code", x.edit(code(0, 0, 0, 1), 0, 2), code(2, 0, 0, 0));
        due("edit at place 3 of the form", x.edit(code(0, 1, 2, 3), 3, 4), code(1, 2, 3, 4));
        for (int bad : NO_CODES) {
            dueThrow("edit code " + bad, () -> x.edit(bad, 0, 0), INDEX);
            dueThrow("edit code and statement " + bad, () -> x.edit(bad, 0, 6), INDEX);
        }
        dueThrow("edit place -1", () -> x.edit(0, -1, 0), INDEX);
        dueThrow("edit place 4", () -> x.edit(0, 4, 0), INDEX);
        dueThrow("edit place 4, statement 6", () -> x.edit(0, 4, 6), INDEX);
        dueThrow("edit statement -1", () -> x.edit(0, 0, -1), ARGUMENT);
        dueThrow("edit statement 6", () -> x.edit(0, 3, 6), ARGUMENT);
        dueThrow("edit statement 5", () -> x.edit(0, 3, 5), NOTHING);
        dueThrow("edit statement far off", () -> x.edit(0, 3, Integer.MAX_VALUE), ARGUMENT);
        dueThrow("edit place far off", () -> x.edit(0, Integer.MIN_VALUE, 0), INDEX);
    }

    private static void promise4Neighbours() {
        Nudgelane x = new Nudgelane();
        due("neighbours of nothing", x.neighbours(0), 6);
        due("neighbours of 1234", x.neighbours(code(1, 2, 3, 4)), 19);
        due("neighbours of the form", x.neighbours(code(0, 0, 0, 1)), x.neighbours(code(1, 0, 0, 0)));
        due("neighbours of a right-away empty one", x.neighbours(code(2, 1, 0, 0)), 6);
        for (int bad : NO_CODES) {
            dueThrow("neighbours(" + bad + ")", () -> x.neighbours(bad), INDEX);
        }
    }

    private static void promise5And6Distance() {
        Nudgelane x = new Nudgelane();
        int some = code(1, 2, 3, 4);
        due("distance to itself", x.distance(some, some), 0);
        due("distance by rounds to itself", x.distanceByRounds(some, some), 0);
        due("distance to the same form", x.distance(code(0, 1, 0, 2), code(1, 0, 2, 0)), 0);
        due("distance by rounds to the same form", x.distanceByRounds(code(0, 1, 0, 2), code(1, 0, 2, 0)), 0);
        due("distance there", x.distance(0, some), 4);
        due("distance by rounds there", x.distanceByRounds(0, some), 4);
        due("distance back", x.distance(some, 0), 3);
        due("distance by rounds back", x.distanceByRounds(some, 0), 3);
        due("distance of one edit", x.distance(0, code(0, 0, 5, 0)), 1);
        due("distance by rounds of one edit", x.distanceByRounds(0, code(0, 0, 5, 0)), 1);
        for (int bad : NO_CODES) {
            dueThrow("distance from " + bad, () -> x.distance(bad, 0), INDEX);
            dueThrow("distance to " + bad, () -> x.distance(0, bad), INDEX);
            dueThrow("distanceByRounds from " + bad, () -> x.distanceByRounds(bad, 0), INDEX);
            dueThrow("distanceByRounds to " + bad, () -> x.distanceByRounds(0, bad), INDEX);
        }
    }

    private static void promise7Begin() {
        Nudgelane x = new Nudgelane();
        for (int bad : NO_CODES) {
            dueThrow("begin(" + bad + ")", () -> x.begin(bad), INDEX);
        }
        due("begin", x.begin(code(0, 0, 0, 1)), 1);
        due("begun at its form", x.at(), code(1, 0, 0, 0));
        dueThrow("begin under way", () -> x.begin(0), STATE);
        dueThrow("begin under way, without a code", () -> x.begin(1296), INDEX);
        due("a throwing begin changes nothing", x.at(), code(1, 0, 0, 0));
        due("a throwing begin meets nothing", x.met(), 1);
        x.end(false);
        due("begin with a met one", x.begin(code(1, 0, 0, 0)), 1);
        x.end(false);
        due("begin with another one", x.begin(0), 2);
        x.end(false);
        for (int more = 4; more <= 60; more++) {
            x.begin(0);
            x.end(false);
        }
        dueThrow("begin for the 61st time", () -> x.begin(0), STATE);
        dueThrow("begin for the 61st time, without a code", () -> x.begin(-1), INDEX);
        due("at after the 61st", x.at(), Nudgelane.NONE);
        Nudgelane y = new Nudgelane();
        for (int more = 1; more <= 59; more++) {
            y.begin(0);
            y.end(false);
        }
        dueThrow("begin for the 60th time", () -> y.begin(0), NOTHING);
    }

    private static void promise8Pass() {
        Nudgelane x = new Nudgelane();
        dueThrow("pass without an attempt", () -> x.pass(0), STATE);
        dueThrow("pass without an attempt or a code", () -> x.pass(1296), INDEX);
        x.begin(0);
        for (int bad : NO_CODES) {
            dueThrow("pass(" + bad + ")", () -> x.pass(bad), INDEX);
        }
        due("pass to the same one", x.pass(0), 1);
        due("pass to another one", x.pass(code(0, 5, 4, 0)), 2);
        due("passed to its form", x.at(), code(4, 5, 0, 0));
        due("pass back", x.pass(0), 2);
        x.end(true);
        dueThrow("pass after the end", () -> x.pass(0), STATE);
        x.begin(0);
        for (int more = 4; more <= 300; more++) {
            x.pass(0);
        }
        dueThrow("pass for the 301st time", () -> x.pass(216), STATE);
        dueThrow("pass for the 301st time, without a code", () -> x.pass(1296), INDEX);
        due("at after the 301st", x.at(), 0);
        due("met after the 301st", x.met(), 2);
        due("passings after the 301st", x.passings(0, 0), 298);
        x.end(false);
        x.begin(0);
        dueThrow("pass for the 301st time in a later attempt", () -> x.pass(0), STATE);
    }

    private static void promise9End() {
        Nudgelane x = new Nudgelane();
        dueThrow("end without an attempt", () -> x.end(false), STATE);
        x.begin(code(0, 0, 1, 0));
        due("end with the first one", x.end(false), code(1, 0, 0, 0));
        due("given up is not right", x.isRight(code(1, 0, 0, 0)), false);
        dueThrow("end twice", () -> x.end(true), STATE);
        due("a throwing end makes nothing right", x.isRight(code(1, 0, 0, 0)), false);
        x.begin(0);
        x.pass(code(4, 0, 0, 0));
        due("end with the last one", x.end(true), code(4, 0, 0, 0));
        due("it is right", x.isRight(code(4, 0, 0, 0)), true);
        due("the first one is not right", x.isRight(0), false);
    }

    private static void promise10To13Told() {
        Nudgelane x = new Nudgelane();
        due("at with none", x.at(), -1);
        x.begin(code(0, 0, 5, 4));
        due("at the first", x.at(), code(4, 5, 0, 0));
        x.pass(code(2, 1, 0, 0));
        due("at the next", x.at(), 0);
        x.pass(code(0, 4, 0, 5));
        x.pass(0);
        x.pass(0);
        x.end(true);
        due("at behind the end", x.at(), -1);
        due("met", x.met(), 2);
        due("passings", x.passings(code(5, 4, 0, 0), code(2, 2, 1, 1)), 2);
        due("passings back", x.passings(0, code(4, 5, 0, 0)), 1);
        due("passings to itself", x.passings(0, 0), 1);
        due("passings of unmet ones", x.passings(1, 2), 0);
        x.begin(code(4, 5, 0, 0));
        due("no passing between attempts", x.passings(0, code(4, 5, 0, 0)), 1);
        x.pass(0);
        due("passings of another attempt", x.passings(code(4, 5, 0, 0), 0), 3);
        x.end(false);
        due("right stays right", x.isRight(0), true);
        due("right by its form", x.isRight(code(2, 1, 2, 1)), true);
        due("another one is not right", x.isRight(code(4, 5, 0, 0)), false);
        for (int bad : NO_CODES) {
            dueThrow("passings from " + bad, () -> x.passings(bad, 0), INDEX);
            dueThrow("passings to " + bad, () -> x.passings(0, bad), INDEX);
            dueThrow("isRight(" + bad + ")", () -> x.isRight(bad), INDEX);
        }
    }

    private static void promise14Worth() {
        Nudgelane x = new Nudgelane();
        int a = code(1, 0, 0, 0);
        int b = code(4, 0, 0, 0);
        due("worth of an unmet one", x.worth(a), 0);
        x.begin(a);
        x.pass(b);
        due("worth under way", x.worth(b), 0);
        x.end(true);
        due("worth of a right one", x.worth(b), 1000000);
        due("worth before it", x.worth(code(0, 0, 0, 1)), 1000000);
        x.begin(a);
        x.end(false);
        x.begin(a);
        x.end(false);
        due("worth of one in three, rounded down", x.worth(a), 333333);
        due("worth of a code of no form", x.worth(code(0, 1, 0, 0)), 333333);
        due("worth of a neighbour", x.worth(code(5, 0, 0, 0)), 0);
        Nudgelane y = new Nudgelane();
        y.begin(a);
        y.pass(a);
        y.end(true);
        due("worth with a loop, behind 60 rounds", y.worth(a), 999999);
        due("the same asked again", y.worth(a), 999999);
        Nudgelane z = new Nudgelane();
        z.begin(a);
        for (int passing = 1; passing <= 59; passing++) {
            z.pass(code(passing % 2 == 0 ? 1 : 4, passing / 2 % 5 + 1, 4, 4));
        }
        z.end(true);
        due("worth of a long way is within its range", z.worth(a) >= 0 && z.worth(a) <= 1000000, true);
        for (int bad : NO_CODES) {
            dueThrow("worth(" + bad + ")", () -> x.worth(bad), INDEX);
        }
        chainOfSixtyOne();
    }

    /** A program 60 passings before a right one is too far for 60 rounds; one nearer is not. */
    private static void chainOfSixtyOne() {
        Nudgelane x = new Nudgelane();
        int[] chain = new int[61];
        int found = 0;
        for (int c = 1080; found < chain.length && c < 1296; c++) {
            if (x.form(c) == c) {
                chain[found] = c;
                found++;
            }
        }
        due("forms for the chain", found, chain.length);
        x.begin(chain[0]);
        for (int passing = 1; passing < chain.length; passing++) {
            x.pass(chain[passing]);
        }
        x.end(true);
        due("worth 60 passings before", x.worth(chain[0]), 0);
        due("worth 59 passings before", x.worth(chain[1]), 1000000);
    }

    private static void promise15Steps() {
        Nudgelane x = new Nudgelane();
        dueThrow("steps without a right one", () -> x.steps(0), ELEMENT);
        for (int bad : NO_CODES) {
            dueThrow("steps(" + bad + ") without a right one", () -> x.steps(bad), INDEX);
        }
        x.begin(0);
        dueThrow("steps under way", () -> x.steps(0), ELEMENT);
        x.end(false);
        dueThrow("steps behind giving up", () -> x.steps(0), ELEMENT);
        x.begin(code(1, 2, 3, 4));
        x.end(true);
        due("steps of the right one", x.steps(code(1, 2, 3, 4)), 0);
        due("steps of nothing", x.steps(0), 4);
        due("steps of one edit", x.steps(code(1, 2, 3, 1)), 1);
        x.begin(code(5, 0, 0, 0));
        x.end(true);
        due("steps to the nearer right one", x.steps(0), 1);
        due("steps of the first right one", x.steps(code(1, 2, 3, 4)), 0);
        due("steps of a code of no form", x.steps(code(0, 0, 0, 5)), 0);
    }

    private static void promise16Hint() {
        Nudgelane x = new Nudgelane();
        dueThrow("hint without a right one", () -> x.hint(0), ELEMENT);
        for (int bad : NO_CODES) {
            dueThrow("hint(" + bad + ") without a right one", () -> x.hint(bad), INDEX);
        }
        x.begin(code(1, 4, 0, 0));
        x.end(true);
        dueThrow("hint for the right one", () -> x.hint(code(1, 4, 0, 0)), STATE);
        dueThrow("hint for a code of the right one", () -> x.hint(code(0, 1, 0, 4)), STATE);
        dueThrow("hint for no code", () -> x.hint(1296), INDEX);
        due("hint of the least code", x.hint(0), code(1, 0, 0, 0));
        due("hint to the right one", x.hint(code(1, 0, 0, 0)), code(1, 4, 0, 0));
        due("hint for a code of no form", x.hint(code(0, 0, 0, 1)), code(1, 4, 0, 0));
        x.begin(code(1, 5, 0, 0));
        x.pass(code(1, 4, 0, 0));
        x.end(true);
        due("hint of the greatest worth", x.hint(code(5, 5, 0, 0)), code(1, 5, 0, 0));
        due("the least code stays for nothing", x.hint(0), code(1, 0, 0, 0));
        Nudgelane y = new Nudgelane();
        y.begin(code(4, 1, 0, 0));
        y.end(true);
        y.begin(code(1, 0, 0, 0));
        y.end(true);
        due("hint to the least of two right ones", y.hint(code(4, 0, 0, 0)), code(1, 0, 0, 0));
        y.begin(code(1, 0, 0, 0));
        y.end(false);
        due("hint to the worthier of two right ones", y.hint(code(4, 0, 0, 0)), code(4, 1, 0, 0));
    }

    private static void promise17Lead() {
        Nudgelane x = new Nudgelane();
        dueThrow("lead without a right one", () -> x.lead(0), ELEMENT);
        for (int bad : NO_CODES) {
            dueThrow("lead(" + bad + ") without a right one", () -> x.lead(bad), INDEX);
        }
        x.begin(code(1, 2, 3, 4));
        x.end(true);
        due("lead from nothing", x.lead(0), code(1, 2, 3, 4));
        due("lead from the right one", x.lead(code(1, 2, 3, 4)), code(1, 2, 3, 4));
        x.begin(code(5, 0, 0, 0));
        x.end(true);
        due("lead to the nearer one", x.lead(0), code(5, 0, 0, 0));
        due("lead from a code of a right one", x.lead(code(0, 0, 0, 5)), code(5, 0, 0, 0));
        due("lead stays at the right one", x.lead(code(1, 2, 3, 4)), code(1, 2, 3, 4));
        Nudgelane y = new Nudgelane();
        y.begin(code(1, 0, 0, 0));
        y.end(true);
        y.begin(code(1, 0, 0, 0));
        y.end(false);
        y.begin(code(4, 0, 0, 0));
        y.end(true);
        due("lead to the worthier one", y.lead(0), code(4, 0, 0, 0));
        Nudgelane z = new Nudgelane();
        z.begin(code(1, 0, 0, 0));
        z.end(true);
        due("lead against the greater code", z.lead(code(2, 0, 0, 0)), code(1, 0, 0, 0));
        due("lead behind no other right one", z.lead(code(4, 4, 4, 4)), code(1, 0, 0, 0));
    }

    private static void promise18Nearest() {
        Nudgelane x = new Nudgelane();
        dueThrow("nearest without a met one", () -> x.nearest(0), ELEMENT);
        for (int bad : NO_CODES) {
            dueThrow("nearest(" + bad + ") without a met one", () -> x.nearest(bad), INDEX);
        }
        x.begin(code(0, 0, 5, 0));
        due("nearest under way", x.nearest(code(1, 2, 3, 4)), code(5, 0, 0, 0));
        x.pass(code(4, 0, 0, 0));
        x.pass(code(1, 2, 3, 4));
        x.end(false);
        due("nearest of the least code", x.nearest(0), code(4, 0, 0, 0));
        due("nearest is itself", x.nearest(code(0, 0, 0, 5)), code(5, 0, 0, 0));
        x.begin(code(5, 5, 0, 0));
        x.end(false);
        due("nearest of the least code, which was not met last", x.nearest(code(5, 4, 0, 0)), code(4, 0, 0, 0));
        due("nearest by distance", x.nearest(code(1, 2, 3, 0)), code(1, 2, 3, 4));
        for (int bad : NO_CODES) {
            dueThrow("nearest(" + bad + ")", () -> x.nearest(bad), INDEX);
        }
    }

    public static void main(String[] args) {
        promise1NewObject();
        promise2Form();
        promise3Edit();
        promise4Neighbours();
        promise5And6Distance();
        promise7Begin();
        promise8Pass();
        promise9End();
        promise10To13Told();
        promise14Worth();
        promise15Steps();
        promise16Hint();
        promise17Lead();
        promise18Nearest();
        System.out.println(wrong == 0 ? "all answers are as due" : wrong + " answers are not as due");
        if (wrong != 0) {
            System.exit(1);
        }
    }
}
