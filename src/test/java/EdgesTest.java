import java.util.ArrayList;
import java.util.List;
import java.util.NoSuchElementException;
import java.util.function.IntSupplier;

/** A test for each sentence of the document that names a boundary; what fails is told with its sentence. */
public final class EdgesTest {
    private static final int INDEX = -101;
    private static final int ELEMENT = -102;
    private static final int STATE = -103;
    private static final int ARGUMENT = -104;
    private static final int OTHER = -105;
    private static final int[] NO_CODES = {-1, 1296, 1297, -1296, Integer.MIN_VALUE, Integer.MAX_VALUE};
    private static final int[] NO_PLACES = {-1, 4, 5, Integer.MIN_VALUE, Integer.MAX_VALUE};
    private static final int[] NO_STATEMENTS = {-1, 6, 7, Integer.MIN_VALUE, Integer.MAX_VALUE};

    private static String sentence = "";
    private static int sentences = 0;
    private static int wrong = 0;

    private static void says(String text) {
        sentence = text;
        sentences++;
    }

    private static void due(String what, long got, long want) {
        if (got != want) {
            wrong++;
            System.out.println("\"" + sentence + "\": " + what + " answered " + got + ", due is " + want);
        }
    }

    private static void due(String what, boolean got, boolean want) {
        due(what, got ? 1 : 0, want ? 1 : 0);
    }

    /** What a call answers, or one of the numbers above for what it throws. */
    private static int answer(IntSupplier call) {
        try {
            return call.getAsInt();
        } catch (RuntimeException e) {
            if (e.getClass() == IndexOutOfBoundsException.class) {
                return INDEX;
            }
            if (e.getClass() == NoSuchElementException.class) {
                return ELEMENT;
            }
            if (e.getClass() == IllegalStateException.class) {
                return STATE;
            }
            return e.getClass() == IllegalArgumentException.class ? ARGUMENT : OTHER;
        }
    }

    private static void dueCall(String what, IntSupplier call, int want) {
        due(what + " (-101 index, -102 element, -103 state, -104 argument, -105 another exception)",
            answer(call), want);
    }

    /** A program's code by its four digits. */
    private static int c(String digits) {
        return Integer.parseInt(digits, 6);
    }

    private static int one(boolean is) {
        return is ? 1 : 0;
    }

    /** An attempt through the programs told, ended as told. */
    private static void attempt(Nudgelane x, boolean right, String... programs) {
        x.begin(c(programs[0]));
        for (int i = 1; i < programs.length; i++) {
            x.pass(c(programs[i]));
        }
        x.end(right);
    }

    private static void attempts(Nudgelane x, int times, boolean right, String... programs) {
        for (int time = 0; time < times; time++) {
            attempt(x, right, programs);
        }
    }

    private static void passOn(Nudgelane x, int times, String program) {
        for (int time = 0; time < times; time++) {
            x.pass(c(program));
        }
    }

    private static List<Integer> forms() {
        List<Integer> all = new ArrayList<>();
        Nudgelane x = null;
        for (int code = 0; code < 1296; code++) {
            if (code % 500 == 0) {
                x = new Nudgelane();
            }
            if (x.form(code) == code) {
                all.add(code);
            }
        }
        return all;
    }

    private interface CodeCall {
        int make(Nudgelane x, int code);
    }

    /** Every call that takes a code; those with two codes stand here twice. */
    private static final String[] CODE_NAMES = {
        "form", "edit", "neighbours", "distance from", "distance to", "distanceByRounds from", "distanceByRounds to",
        "passings from", "passings to", "isRight", "worth", "steps", "hint", "lead", "nearest", "begin", "pass",
    };
    private static final CodeCall[] CODE_CALLS = {
        (x, code) -> x.form(code),
        (x, code) -> x.edit(code, 0, 0),
        (x, code) -> x.neighbours(code),
        (x, code) -> x.distance(code, 0),
        (x, code) -> x.distance(0, code),
        (x, code) -> x.distanceByRounds(code, 0),
        (x, code) -> x.distanceByRounds(0, code),
        (x, code) -> x.passings(code, 0),
        (x, code) -> x.passings(0, code),
        (x, code) -> one(x.isRight(code)),
        (x, code) -> x.worth(code),
        (x, code) -> x.steps(code),
        (x, code) -> x.hint(code),
        (x, code) -> x.lead(code),
        (x, code) -> x.nearest(code),
        (x, code) -> x.begin(code),
        (x, code) -> x.pass(code),
    };

    // ---- What it is; Terms: programs

    private static void calls512() {
        says("An object is used for at most 512 calls after it has been made");
        Nudgelane x = new Nudgelane();
        for (int time = 0; time < 60; time++) {
            attempt(x, true, "0000", "1000", "1000", "1000", "1000", "1000");
        }
        for (int call = 421; call < 512; call++) {
            due("call " + call, x.met(), 2);
        }
        due("call 512", x.lead(c("5000")), c("1000"));
        Nudgelane y = new Nudgelane();
        for (int call = 1; call < 512; call++) {
            dueCall("refused call " + call, () -> y.end(true), STATE);
        }
        due("begin as call 512", y.begin(0), 1);
    }

    private static void noneIsMinusOne() {
        says("NONE = -1: There is none.");
        due("NONE", Nudgelane.NONE, -1);
    }

    private static void codesAre0To1295() {
        says("so codes are 0 to 1295");
        for (int code : new int[] {0, 1295}) {
            for (int i = 0; i < CODE_CALLS.length; i++) {
                CodeCall call = CODE_CALLS[i];
                Nudgelane x = readyFor(CODE_NAMES[i]);
                dueCall(CODE_NAMES[i] + " " + code + " taken", () -> Math.min(0, call.make(x, code)), 0);
            }
        }
    }

    /** Nothing but the code can be wrong with the call then. */
    private static Nudgelane readyFor(String name) {
        Nudgelane x = new Nudgelane();
        attempt(x, true, "0000", "1234");
        if (name.equals("pass")) {
            x.begin(c("1000"));
        }
        return x;
    }

    private static void noSuchCode() {
        says("IndexOutOfBoundsException is thrown if there is no such code.");
        for (int i = 0; i < CODE_CALLS.length; i++) {
            CodeCall call = CODE_CALLS[i];
            Nudgelane x = readyFor(CODE_NAMES[i]);
            for (int code : NO_CODES) {
                dueCall(CODE_NAMES[i] + " " + code, () -> call.make(x, code), INDEX);
            }
        }
    }

    private static void placeZeroFirst() {
        says("the number whose digits, in the base 6, are those of the places 0 to 3, that of the place 0 first");
        Nudgelane x = new Nudgelane();
        due("place 0 of the last code", x.edit(1295, 0, 1), 1295 - 4 * 216);
        due("place 1 of the last code", x.edit(1295, 1, 1), 1295 - 4 * 36);
        due("place 2 of the last code", x.edit(1295, 2, 1), 1295 - 4 * 6);
        due("place 3 of the last code", x.edit(1295, 3, 1), 1295 - 4);
        due("place 0 of the first code", x.edit(0, 0, 1), 216);
    }

    // ---- Terms: forms

    private static void dueForm(Nudgelane x, String program, String want) {
        due("form of " + program, x.form(c(program)), c(want));
    }

    private static void dueStays(Nudgelane x, String... programs) {
        for (String program : programs) {
            dueForm(x, program, program);
        }
    }

    private static void rule1() {
        says("(1) a place with nothing, behind which there is a statement in the next place: both change places");
        Nudgelane x = new Nudgelane();
        dueForm(x, "0100", "1000");
        dueForm(x, "1040", "1400");
        dueForm(x, "1105", "1150");
        dueForm(x, "0005", "5000");
        dueForm(x, "0050", "5000");
        dueForm(x, "1001", "1100");
        dueForm(x, "0123", "1230");
        dueForm(x, "0304", "3400");
        for (String statement : new String[] {"1", "2", "3", "4", "5"}) {
            dueForm(x, "000" + statement, statement + "000");
        }
        dueStays(x, "0000", "1000", "1200", "1230");
    }

    private static void rule2() {
        says("(2) a 5 with a 4 in the next place: both change places");
        Nudgelane x = new Nudgelane();
        dueForm(x, "5400", "4500");
        dueForm(x, "1540", "1450");
        dueForm(x, "1154", "1145");
        dueForm(x, "5554", "4555");
        dueForm(x, "5444", "4445");
        dueForm(x, "5454", "4455");
        dueStays(x, "4500", "5140", "4145", "5300", "3400");
    }

    private static void rule3() {
        says("(3) a 3 with a 3 in the next place: the latter becomes nothing");
        Nudgelane x = new Nudgelane();
        dueForm(x, "3300", "3000");
        dueForm(x, "1330", "1300");
        dueForm(x, "1133", "1130");
        dueForm(x, "3333", "3000");
        dueForm(x, "3331", "3100");
        dueForm(x, "3313", "3130");
        dueStays(x, "3130", "1100", "2200", "4400", "5500");
    }

    private static void rule4() {
        says("(4) a 2 with a 1 in the next place: both become nothing");
        Nudgelane x = new Nudgelane();
        dueForm(x, "2100", "0000");
        dueForm(x, "4210", "4000");
        dueForm(x, "4421", "4400");
        dueForm(x, "2134", "3400");
        dueForm(x, "2121", "0000");
        dueStays(x, "1200", "2310", "2200", "3100");
    }

    private static void noPlaceBehindTheLast() {
        says("in the next place (behind the place 3 there is none, nor is the place 0 behind it)");
        Nudgelane x = new Nudgelane();
        dueStays(x, "4115", "4445", "3113", "3443", "1442", "1112", "1110", "4110", "3000", "5000", "2000");
    }

    private static void asLongAsARuleCanBeUsed() {
        says("as long as one of these rules can be used");
        Nudgelane x = new Nudgelane();
        dueForm(x, "5544", "4455");
        dueForm(x, "2211", "0000");
        dueForm(x, "3213", "3000");
        dueForm(x, "5214", "4500");
        dueForm(x, "2331", "2310");
        dueForm(x, "2021", "2000");
        dueForm(x, "0201", "0000");
        dueForm(x, "5004", "4500");
        dueForm(x, "3003", "3000");
        due("how many forms there are", forms().size(), 542);
    }

    private static void sameForm() {
        says("whatever is told or asked of a program is meant of its form");
        Nudgelane x = new Nudgelane();
        x.begin(c("0054"));
        due("at behind begin", x.at(), c("4500"));
        due("met behind passing to the same one", x.pass(c("5004")), 1);
        x.pass(c("3333"));
        due("at behind pass", x.at(), c("3000"));
        due("end", x.end(true), c("3000"));
        due("edit", x.edit(c("3300"), 0, 1), c("1000"));
        due("neighbours", x.neighbours(c("2211")), 6);
        due("distance", x.distance(c("0021"), c("2100")), 0);
        due("distanceByRounds", x.distanceByRounds(c("0021"), c("2100")), 0);
        due("distance to another one", x.distance(c("0021"), c("3330")), 1);
        due("distanceByRounds to another one", x.distanceByRounds(c("0021"), c("3330")), 1);
        due("passings", x.passings(c("5400"), c("0540")), 1);
        due("isRight", x.isRight(c("0033")), true);
        due("worth", x.worth(c("0303")), 1000000);
        due("steps", x.steps(c("0303")), 0);
        due("hint", x.hint(c("2121")), c("3000"));
        due("hint of a right one", answer(() -> x.hint(c("0330"))), STATE);
        due("lead", x.lead(c("0330")), c("3000"));
        due("nearest", x.nearest(c("0540")), c("4500"));
    }

    // ---- Promise 1

    private static void newObject() {
        says("Begins without attempts.");
        Nudgelane x = new Nudgelane();
        due("at", x.at(), Nudgelane.NONE);
        due("met", x.met(), 0);
        for (int code : new int[] {0, 216, 1295}) {
            due("passings of " + code, x.passings(code, code), 0);
            due("isRight of " + code, x.isRight(code), false);
            due("worth of " + code, x.worth(code), 0);
            dueCall("steps of " + code, () -> x.steps(code), ELEMENT);
            dueCall("hint for " + code, () -> x.hint(code), ELEMENT);
            dueCall("lead from " + code, () -> x.lead(code), ELEMENT);
            dueCall("nearest to " + code, () -> x.nearest(code), ELEMENT);
        }
        Nudgelane told = new Nudgelane();
        attempt(told, true, "0000", "1000");
        told.begin(0);
        due("met behind what another object was told", x.met() + new Nudgelane().met(), 0);
        due("at behind what another object was told", x.at(), Nudgelane.NONE);
        due("isRight behind what another object was told", new Nudgelane().isRight(216), false);
        due("begin behind what another object was told", x.begin(0), 1);
    }

    // ---- Promise 3

    private static void editPlaces() {
        says("place: 0 to 3");
        Nudgelane x = new Nudgelane();
        due("place 0", x.edit(c("1235"), 0, 3), c("3235"));
        due("place 1", x.edit(c("1235"), 1, 4), c("1435"));
        due("place 2", x.edit(c("1235"), 2, 4), c("1245"));
        due("place 3", x.edit(c("1235"), 3, 1), c("1231"));
        for (int place : NO_PLACES) {
            dueCall("place " + place, () -> x.edit(c("1235"), place, 1), INDEX);
            dueCall("place " + place + " of nothing", () -> x.edit(0, place, 0), INDEX);
        }
    }

    private static void editStatements() {
        says("statement: 0 to 5");
        Nudgelane x = new Nudgelane();
        due("statement 0 at the place 0", x.edit(c("1234"), 0, 0), c("2340"));
        due("statement 5 at the place 0", x.edit(c("1234"), 0, 5), c("5234"));
        due("statement 0 at the place 3", x.edit(c("1234"), 3, 0), c("1230"));
        due("statement 5 at the place 3", x.edit(c("1234"), 3, 5), c("1235"));
        due("statement 0 for nothing", x.edit(0, 0, 0), 0);
        due("statement 0 behind the last one", x.edit(c("1000"), 3, 0), c("1000"));
        due("statement 5 for nothing at the place 3", x.edit(0, 3, 5), c("5000"));
        for (int statement : NO_STATEMENTS) {
            dueCall("statement " + statement + " at the place 0", () -> x.edit(0, 0, statement), ARGUMENT);
            dueCall("statement " + statement + " at the place 3", () -> x.edit(1295, 3, statement), ARGUMENT);
        }
    }

    private static void editInPlaceOfWhatIsThere() {
        says("into one place of a form, in place of what is there; the form of what comes out");
        Nudgelane x = new Nudgelane();
        due("the same statement", x.edit(c("1234"), 2, 3), c("1234"));
        due("not put in between", x.edit(c("1200"), 0, 3), c("3200"));
        due("far behind the last statement", x.edit(c("1000"), 3, 4), c("1400"));
        due("what comes out changes places", x.edit(c("5300"), 1, 4), c("4500"));
        due("what comes out vanishes", x.edit(c("2310"), 1, 0), 0);
        due("what comes out is one 3", x.edit(c("3130"), 1, 3), c("3000"));
        due("into the form, not the code", x.edit(c("0012"), 0, 5), c("5200"));
        due("into the form that is nothing", x.edit(c("2121"), 3, 5), c("5000"));
    }

    // ---- Promise 4

    private static void neighboursAmongThem() {
        says("how many unlike programs one edit can lead to, the program itself among them");
        Nudgelane x = new Nudgelane();
        due("the fewest, of nothing", x.neighbours(0), 6);
        due("the most", x.neighbours(c("1240")), 21);
        due("of one statement", x.neighbours(c("1000")), 11);
        due("of one statement, one edit taking it away", x.neighbours(c("2000")), 10);
        due("of four alike", x.neighbours(c("1111")), 16);
        due("of the last code", x.neighbours(1295), neighboursByHand(x, 1295));
    }

    private static int neighboursByHand(Nudgelane x, int code) {
        List<Integer> unlike = new ArrayList<>();
        for (int edit = 0; edit < 24; edit++) {
            int behind = x.edit(code, edit / 6, edit % 6);
            if (!unlike.contains(behind)) {
                unlike.add(behind);
            }
        }
        return unlike.size();
    }

    // ---- Promises 5 and 6

    private static void dueDistance(Nudgelane x, String from, String to, int want) {
        due("distance " + from + " " + to, x.distance(c(from), c(to)), want);
        due("distanceByRounds " + from + " " + to, x.distanceByRounds(c(from), c(to)), want);
    }

    private static void leastNumberOfEdits() {
        says("the least number of edits that lead from the one to the other one");
        Nudgelane x = new Nudgelane();
        dueDistance(x, "0000", "0000", 0);
        dueDistance(x, "5555", "5555", 0);
        dueDistance(x, "0000", "1000", 1);
        dueDistance(x, "0000", "5555", 4);
        dueDistance(x, "5555", "0000", 4);
        dueDistance(x, "0000", "2310", 3);
        dueDistance(x, "2310", "0000", 1);
        dueDistance(x, "1000", "1234", 3);
        says("(neither can the last two places of 1124 be changed first: 54 changes places and 21 becomes nothing)");
        dueDistance(x, "1124", "3551", 5);
        dueDistance(x, "3551", "1124", 5);
        dueDistance(x, "1123", "3551", 4);
    }

    private static void someAlwaysDo() {
        says("(some always do)");
        Nudgelane x = null;
        int asked = 0;
        for (int form : forms()) {
            if (asked++ % 100 == 0) {
                x = new Nudgelane();
            }
            String digits = Integer.toString(1296 * 5 + form, 6).substring(1);
            int statements = digits.replace("0", "").length();
            due("distance from nothing to " + digits, x.distance(0, form), statements);
            due("distanceByRounds from nothing to " + digits, x.distanceByRounds(0, form), statements);
            int back = x.distance(form, 0);
            due("distance back from " + digits, back >= Math.min(1, statements) && back <= statements, true);
            due("distanceByRounds back from " + digits, x.distanceByRounds(form, 0), back);
        }
    }

    private static void distanceOfEither() {
        says("Throws IndexOutOfBoundsException as told, of either");
        Nudgelane x = new Nudgelane();
        for (int bad : NO_CODES) {
            dueCall("distance from and to " + bad, () -> x.distance(bad, bad), INDEX);
            dueCall("distanceByRounds from and to " + bad, () -> x.distanceByRounds(bad, bad), INDEX);
            dueCall("passings from and to " + bad, () -> x.passings(bad, bad), INDEX);
        }
    }

    // ---- Promise 7

    private static void beginUnderWay() {
        says("Throws IllegalStateException if an attempt is under way");
        Nudgelane x = new Nudgelane();
        x.begin(0);
        dueCall("begin just behind begin", () -> x.begin(0), STATE);
        x.pass(c("1000"));
        dueCall("begin behind pass", () -> x.begin(c("2000")), STATE);
        due("at", x.at(), c("1000"));
        due("met", x.met(), 2);
        x.end(false);
        due("begin behind end", x.begin(c("2000")), 3);
    }

    private static void sixtyHaveBegun() {
        says("or 60 have begun");
        Nudgelane x = new Nudgelane();
        for (int attempt = 1; attempt <= 60; attempt++) {
            due("begin " + attempt, x.begin(0), 1);
            due("end " + attempt, x.end(attempt % 2 == 0), 0);
        }
        dueCall("begin 61 with none under way", () -> x.begin(c("1000")), STATE);
        due("met behind begin 61", x.met(), 1);
        due("at behind begin 61", x.at(), Nudgelane.NONE);
        dueCall("begin 62", () -> x.begin(0), STATE);
        dueCall("pass behind 60 attempts", () -> x.pass(0), STATE);
        dueCall("end behind 60 attempts", () -> x.end(true), STATE);
        due("worth behind 60 attempts", x.worth(0), 500000);
    }

    private static void theSixtiethAttempt() {
        says("or 60 have begun (the 60th itself may pass, and end right)");
        Nudgelane x = new Nudgelane();
        attempts(x, 59, false, "0000");
        due("begin 60", x.begin(c("1000")), 2);
        dueCall("begin 61 under way", () -> x.begin(0), STATE);
        due("at behind begin 61", x.at(), c("1000"));
        due("pass in the 60th", x.pass(c("1100")), 3);
        due("end of the 60th", x.end(true), c("1100"));
        due("right by the 60th", x.isRight(c("1100")), true);
    }

    private static void refusedBeginsDoNotCount() {
        says("60 have begun (refused ones have not)");
        Nudgelane x = new Nudgelane();
        x.begin(0);
        for (int time = 0; time < 70; time++) {
            dueCall("begin under way", () -> x.begin(0), STATE);
            dueCall("begin without a code", () -> x.begin(1296), INDEX);
        }
        x.end(false);
        attempts(x, 58, false, "0000");
        dueCall("begin 60", () -> x.begin(0), 1);
        x.end(false);
        dueCall("begin 61", () -> x.begin(0), STATE);
    }

    private static void metThen() {
        says("Returns how many programs were met then.");
        Nudgelane x = new Nudgelane();
        due("first begin", x.begin(0), 1);
        due("pass to the same one", x.pass(0), 1);
        due("pass to another one", x.pass(c("1000")), 2);
        due("pass back", x.pass(0), 2);
        due("pass to a third one", x.pass(c("1100")), 3);
        x.end(false);
        due("begin with a program passed to", x.begin(c("1000")), 3);
        x.end(true);
        due("begin with the program begun with", x.begin(0), 3);
        x.end(true);
        due("begin with a fourth one", x.begin(1295), 4);
    }

    // ---- Promise 8

    private static void passWithNoneUnderWay() {
        says("Throws IllegalStateException if no attempt is under way");
        Nudgelane x = new Nudgelane();
        dueCall("pass on a new object", () -> x.pass(0), STATE);
        dueCall("end on a new object", () -> x.end(true), STATE);
        attempt(x, false, "0000", "1000");
        dueCall("pass behind giving up", () -> x.pass(c("1000")), STATE);
        dueCall("end behind giving up", () -> x.end(true), STATE);
        attempt(x, true, "0000", "1000");
        dueCall("pass behind a right end", () -> x.pass(c("1100")), STATE);
        dueCall("end behind a right end", () -> x.end(false), STATE);
        due("met", x.met(), 2);
        due("passings", x.passings(c("1000"), c("1000")) + x.passings(c("1000"), c("1100")), 0);
    }

    private static void threeHundredPassingsOfOneAttempt() {
        says("or there were 300 passings (of one attempt)");
        Nudgelane x = new Nudgelane();
        x.begin(0);
        passOn(x, 299, "1000");
        dueCall("passing 300", () -> x.pass(c("1000")), 2);
        dueCall("passing 301", () -> x.pass(c("1100")), STATE);
        due("met behind passing 301", x.met(), 2);
        due("at behind passing 301", x.at(), c("1000"));
        due("passings behind passing 301", x.passings(c("1000"), c("1000")), 299);
        due("passings to the refused one", x.passings(c("1000"), c("1100")), 0);
        due("end behind passing 301", x.end(true), c("1000"));
        due("begin behind passing 301", x.begin(c("1100")), 3);
        dueCall("passing 302, in another attempt", () -> x.pass(0), STATE);
        due("end behind passing 302", x.end(false), c("1100"));
    }

    private static void threeHundredPassingsOfAll() {
        says("or there were 300 passings (of all attempts)");
        Nudgelane x = new Nudgelane();
        for (int attempt = 1; attempt <= 30; attempt++) {
            x.begin(0);
            passOn(x, attempt == 30 ? 9 : 10, "1000");
            if (attempt < 30) {
                x.end(attempt % 2 == 0);
            }
        }
        dueCall("passing 300", () -> x.pass(c("1100")), 3);
        dueCall("passing 301", () -> x.pass(c("1100")), STATE);
        due("passings from the first", x.passings(0, c("1000")), 30);
        due("passings to the same one", x.passings(c("1000"), c("1000")), 269);
        due("the last passing", x.passings(c("1000"), c("1100")), 1);
    }

    private static void refusedPassingsDoNotCount() {
        says("there were 300 passings (refused ones were none)");
        Nudgelane x = new Nudgelane();
        for (int time = 0; time < 50; time++) {
            dueCall("pass with none under way", () -> x.pass(0), STATE);
        }
        x.begin(0);
        for (int time = 0; time < 50; time++) {
            dueCall("pass without a code", () -> x.pass(-1), INDEX);
        }
        passOn(x, 299, "0000");
        dueCall("passing 300", () -> x.pass(0), 1);
        dueCall("passing 301", () -> x.pass(0), STATE);
        due("passings", x.passings(0, 0), 300);
    }

    private static void whichMayBeTheSameOne() {
        says("which may be the same one");
        Nudgelane x = new Nudgelane();
        x.begin(c("1234"));
        due("pass to the same one", x.pass(c("1234")), 1);
        due("passings to the same one", x.passings(c("1234"), c("1234")), 1);
        due("at", x.at(), c("1234"));
    }

    // ---- Promises 9 to 13

    private static void orWithWhichItBegan() {
        says("it ends with the program to which it passed last (or with which it began), right or given up");
        Nudgelane x = new Nudgelane();
        x.begin(c("0010"));
        due("end without passings", x.end(true), c("1000"));
        x.begin(c("2000"));
        x.pass(c("3000"));
        x.pass(c("0040"));
        due("end behind passings", x.end(false), c("4000"));
        due("right without passings", x.isRight(c("1000")), true);
        due("given up", x.isRight(c("4000")), false);
        x.begin(0);
        x.pass(0);
        due("end with nothing", x.end(true), 0);
    }

    private static void rightFromThenOn() {
        says("If it ends right, that program is right from then on.");
        Nudgelane x = new Nudgelane();
        x.begin(c("1000"));
        x.pass(c("1100"));
        x.pass(c("1110"));
        due("before the end", x.isRight(c("1110")), false);
        x.end(true);
        due("behind the end", x.isRight(c("1110")), true);
        due("the one before", x.isRight(c("1100")), false);
        due("the first one", x.isRight(c("1000")), false);
        due("one not met", x.isRight(0), false);
        x.begin(c("1110"));
        due("under way again", x.isRight(c("1110")), true);
        x.end(false);
        due("behind giving up", x.isRight(c("1110")), true);
        attempts(x, 58, false, "1110");
        due("behind all attempts", x.isRight(c("1110")), true);
        due("its worth", x.worth(c("1110")), 1000000 / 60);
    }

    private static void noneIfNoneIsUnderWay() {
        says("NONE if none is under way");
        Nudgelane x = new Nudgelane();
        due("at first", x.at(), -1);
        dueCall("begin without a code", () -> x.begin(-1), INDEX);
        due("behind a refused begin", x.at(), -1);
        x.begin(0);
        due("with nothing under way", x.at(), 0);
        x.end(true);
        due("behind a right end", x.at(), -1);
        x.begin(1295);
        due("with the last code", x.at(), 1295);
        x.pass(0);
        due("behind passing to nothing", x.at(), 0);
        x.end(false);
        due("behind giving up", x.at(), -1);
    }

    private static void metFull() {
        says("A program was met if some attempt began with it or passed to it (as many as there can be)");
        List<Integer> forms = forms();
        Nudgelane x = new Nudgelane();
        int next = 0;
        for (int attempt = 0; attempt < 60; attempt++) {
            due("begin with number " + next, x.begin(forms.get(next)), next + 1);
            next++;
            for (int passing = 0; passing < 5; passing++) {
                due("pass to number " + next, x.pass(forms.get(next)), next + 1);
                next++;
            }
            x.end(true);
        }
        due("met", x.met(), 360);
        for (int i = 0; i < 360; i += 17) {
            due("nearest to number " + i, x.nearest(forms.get(i)), forms.get(i));
            due("worth of number " + i, x.worth(forms.get(i)), 1000000);
        }
        due("worth of the first not met", x.worth(forms.get(360)), 0);
        due("isRight of the last", x.isRight(forms.get(359)), true);
        due("isRight of the last but one", x.isRight(forms.get(358)), false);
        due("passings to the last", x.passings(forms.get(358), forms.get(359)), 1);
    }

    private static void howOften() {
        says("how often attempts passed from a program to another one");
        Nudgelane x = new Nudgelane();
        due("on a new object", x.passings(0, 0), 0);
        x.begin(0);
        due("begin is none", x.passings(0, 0), 0);
        x.end(true);
        due("end is none", x.passings(0, 0), 0);
        attempt(x, false, "1000", "0000", "1000");
        due("none between attempts", x.passings(0, c("1000")), 1);
        attempt(x, false, "0000", "1000");
        due("of two attempts", x.passings(0, c("1000")), 2);
        due("the other way", x.passings(c("1000"), 0), 1);
        due("of one not met", x.passings(0, c("1100")) + x.passings(c("1100"), 0), 0);
        x.begin(0);
        passOn(x, 297, "0000");
        due("as often as there can be", x.passings(0, 0), 297);
    }

    // ---- Promise 14

    private static void dueWorth(Nudgelane x, String program, int want) {
        due("worth of " + program, x.worth(c(program)), want);
    }

    private static void zeroIfThereAreNone() {
        says("0 if there are none. The worth of a program that was not met is 0.");
        Nudgelane x = new Nudgelane();
        dueWorth(x, "0000", 0);
        x.begin(0);
        dueWorth(x, "0000", 0);
        x.end(true);
        dueWorth(x, "0000", 1000000);
        dueWorth(x, "1000", 0);
        x.begin(c("2000"));
        dueWorth(x, "2000", 0);
        x.pass(c("3000"));
        dueWorth(x, "2000", 0);
        dueWorth(x, "3000", 0);
        x.pass(0);
        dueWorth(x, "2000", 1000000);
        dueWorth(x, "3000", 1000000);
        dueWorth(x, "0000", 1000000);
        x.end(false);
        dueWorth(x, "2000", 500000);
        dueWorth(x, "3000", 500000);
        dueWorth(x, "0000", 500000);
    }

    private static void sixtyRounds(List<Integer> chain, String order) {
        says("The worth of programs that were met is found in 60 rounds (" + order + ")");
        Nudgelane x = new Nudgelane();
        x.begin(chain.get(0));
        for (int i = 1; i <= 61; i++) {
            x.pass(chain.get(i));
        }
        x.end(true);
        due("worth of the right one", x.worth(chain.get(61)), 1000000);
        due("worth 59 passings before", x.worth(chain.get(2)), 1000000);
        due("worth 60 passings before", x.worth(chain.get(1)), 0);
        due("worth 61 passings before", x.worth(chain.get(0)), 0);
        due("worth asked again", x.worth(chain.get(2)), 1000000);
        due("worth asked again, too far", x.worth(chain.get(1)), 0);
    }

    private static void sixtyRounds() {
        List<Integer> upwards = forms().subList(100, 162);
        List<Integer> downwards = new ArrayList<>();
        for (int code : upwards) {
            downwards.add(0, code);
        }
        sixtyRounds(upwards, "codes upwards");
        sixtyRounds(downwards, "codes downwards");
    }

    /** The latter half is met first, so that a worth of the same round, if it were used, would come one too far. */
    private static void fromTheRoundBefore() {
        says("In each round, from the worths behind the round before");
        List<Integer> forms = forms();
        Nudgelane x = new Nudgelane();
        x.begin(forms.get(30));
        for (int i = 31; i <= 60; i++) {
            x.pass(forms.get(i));
        }
        x.end(true);
        x.begin(forms.get(0));
        for (int i = 1; i <= 30; i++) {
            x.pass(forms.get(i));
        }
        x.end(false);
        due("worth 31 passings before", x.worth(forms.get(29)), 500000);
        due("worth 59 passings before", x.worth(forms.get(1)), 500000);
        due("worth 60 passings before", x.worth(forms.get(0)), 0);
    }

    private static void atFirstZero() {
        says("at first 0 for all (each time that it is found)");
        Nudgelane x = new Nudgelane();
        attempt(x, true, "1000", "2000");
        dueWorth(x, "1000", 1000000);
        dueWorth(x, "2000", 1000000);
        x.begin(c("2000"));
        passOn(x, 299, "2000");
        long loop = 0;
        for (int round = 0; round < 60; round++) {
            loop = (299 * loop + 1000000) / 300;
        }
        dueWorth(x, "2000", (int) loop);
        dueWorth(x, "2000", (int) loop);
    }

    private static void onceForEachTime() {
        says("the sum of the worths of the programs to which attempts passed from it, once for each time");
        Nudgelane x = new Nudgelane();
        attempt(x, true, "1000", "4000");
        attempt(x, false, "1000", "5000");
        dueWorth(x, "1000", 500000);
        attempt(x, true, "1000", "4000");
        dueWorth(x, "1000", 666666);
        attempt(x, true, "1000", "4000");
        dueWorth(x, "1000", 750000);
        says("and 1000000 for each attempt that ended right with it");
        attempt(x, true, "1000");
        attempt(x, true, "1000");
        dueWorth(x, "1000", 833333);
        says("divided by the number of all attempts' passings from it and endings with it");
        attempt(x, false, "1000");
        dueWorth(x, "1000", 714285);
        dueWorth(x, "4000", 1000000);
        dueWorth(x, "5000", 0);
        attempt(x, true, "5000");
        dueWorth(x, "5000", 500000);
        dueWorth(x, "1000", 785714);
    }

    private static void roundedDown() {
        says("rounded down");
        Nudgelane x = new Nudgelane();
        attempts(x, 2, true, "1000", "2000");
        attempt(x, false, "1000", "2000");
        dueWorth(x, "2000", 666666);
        dueWorth(x, "1000", 666666);
        attempt(x, true, "1000");
        says("rounded down (in each round)");
        dueWorth(x, "1000", 749999);
    }

    private static void zeroTo1000000() {
        says("Returns 0 to 1000000.");
        Nudgelane x = new Nudgelane();
        attempts(x, 60, true, "0000");
        dueWorth(x, "0000", 1000000);
        Nudgelane y = new Nudgelane();
        attempts(y, 60, true, "0000", "0000", "0000", "0000", "0000", "0000");
        long most = 0;
        for (int round = 0; round < 60; round++) {
            most = (300 * most + 60000000L) / 360;
        }
        dueWorth(y, "0000", (int) most);
        Nudgelane z = new Nudgelane();
        attempts(z, 60, false, "0000", "1000", "0000", "1000", "0000", "1000");
        dueWorth(z, "0000", 0);
        dueWorth(z, "1000", 0);
        Nudgelane lone = new Nudgelane();
        attempts(lone, 59, false, "0000");
        attempt(lone, true, "0000");
        dueWorth(lone, "0000", 16666);
    }

    // ---- Promises 15 to 17

    private static void noProgramIsRight() {
        says("Throws java.util.NoSuchElementException if no program is right");
        Nudgelane x = new Nudgelane();
        dueNoneRight(x, "new");
        x.begin(0);
        x.pass(c("1000"));
        dueNoneRight(x, "under way");
        x.end(false);
        dueNoneRight(x, "given up");
        x.begin(0);
        x.end(true);
        due("steps behind a right end", x.steps(c("1000")), 1);
        due("hint behind a right end", x.hint(c("1000")), 0);
        due("lead behind a right end", x.lead(c("1000")), 0);
    }

    private static void dueNoneRight(Nudgelane x, String when) {
        for (int code : new int[] {0, 216, 1295}) {
            dueCall("steps of " + code + ", " + when, () -> x.steps(code), ELEMENT);
            dueCall("hint for " + code + ", " + when, () -> x.hint(code), ELEMENT);
            dueCall("lead from " + code + ", " + when, () -> x.lead(code), ELEMENT);
        }
    }

    private static void leastOfItsDistances() {
        says("The steps of a program are the least of its distances to right programs.");
        Nudgelane x = new Nudgelane();
        attempt(x, true, "3551");
        due("steps of a right one", x.steps(c("3551")), 0);
        due("the most steps", x.steps(c("1124")), 5);
        due("steps of nothing", x.steps(0), 4);
        attempt(x, true, "2310");
        due("steps towards, not back", x.steps(0), 3);
        attempt(x, true, "0000");
        due("steps back", x.steps(c("2310")), 0);
        due("steps to the nearest", x.steps(c("2410")), 1);
        x.begin(c("1500"));
        due("what is under way is not right", x.steps(c("1500")), 2);
        x.end(false);
        due("what was given up is not right", x.steps(c("1500")), 2);
        due("of the first right one", x.steps(c("3551")), 0);
        due("of 1124 now", x.steps(c("1124")), x.distance(c("1124"), 0));
    }

    private static void hintIfRight() {
        says("Throws IllegalStateException if the program is right");
        Nudgelane x = new Nudgelane();
        attempt(x, true, "1000", "0000");
        dueCall("hint for the right one", () -> x.hint(0), STATE);
        dueCall("hint for its other code", () -> x.hint(c("2211")), STATE);
        dueCall("hint for the one before", () -> x.hint(c("1000")), 0);
        attempt(x, true, "1000");
        attempt(x, false, "0000");
        dueCall("hint for the second right one", () -> x.hint(c("1000")), STATE);
        dueCall("hint for the first one, given up since", () -> x.hint(0), STATE);
        due("lead is its form, if it is right", x.lead(c("2211")), 0);
        due("lead is its form, of the second one", x.lead(c("0010")), c("1000"));
    }

    private static void stepsOneLess() {
        says("the program behind an edit whose steps are 1 less");
        Nudgelane x = new Nudgelane();
        attempt(x, true, "2000", "1400");
        due("not the worthier one that is as far", x.hint(0), c("1000"));
        due("the right one, one edit away", x.hint(c("1000")), c("1400"));
        due("the right one, not the worthy one beside", x.hint(c("2400")), c("1400"));
        Nudgelane y = new Nudgelane();
        attempt(y, true, "1000");
        due("steps of nothing", y.steps(0), 1);
        due("not nothing, which is as near, but not behind one edit", y.hint(c("4500")), c("1500"));
        due("not nothing, for the last code", y.steps(y.hint(1295)), 3);
    }

    private static void greatestWorth() {
        says("of several the one with the greatest worth");
        Nudgelane x = new Nudgelane();
        attempt(x, true, "1145");
        due("the least code without worths", x.hint(c("4345")), c("1345"));
        attempt(x, true, "4145", "1145");
        due("the greater code, worthier", x.hint(c("4345")), c("4145"));
        attempt(x, false, "4145");
        due("the greater code, less worthy by now", x.hint(c("4345")), c("4145"));
        attempt(x, true, "1345", "1145");
        due("the lesser code, worthier by now", x.hint(c("4345")), c("1345"));
    }

    private static void leastCode() {
        says("of these the one with the least code");
        Nudgelane x = new Nudgelane();
        attempt(x, true, "4000");
        attempt(x, true, "1000");
        attempt(x, true, "3000");
        due("of three right ones, the least not told first", x.hint(0), c("1000"));
        due("lead of the same", x.lead(0), c("1000"));
        Nudgelane y = new Nudgelane();
        attempt(y, true, "1000");
        attempt(y, true, "3000");
        due("of two right ones, the least told first", y.hint(0), c("1000"));
        Nudgelane z = new Nudgelane();
        attempts(z, 2, true, "5000");
        attempt(z, true, "4000");
        due("equal worths, not equal times", z.hint(0), c("4000"));
        Nudgelane last = new Nudgelane();
        attempt(last, true, "5555");
        due("without worths", last.hint(c("1111")), c("1115"));
    }

    private static void followingHints() {
        says("the right program to which hints lead from a program, if they are followed one after the other");
        Nudgelane y = new Nudgelane();
        attempt(y, true, "1000");
        attempt(y, false, "1000");
        attempt(y, true, "4000");
        due("lead to the worthier one, asked first", y.lead(0), c("4000"));
        attempts(y, 2, false, "4000");
        due("lead to the other one, worthier by now", y.lead(0), c("1000"));
        Nudgelane x = new Nudgelane();
        attempt(x, true, "1124", "1150", "3551");
        attempt(x, false, "4444", "1150");
        attempt(x, true, "2310", "5000", "4443");
        for (String from : new String[] {"1124", "0000", "2222", "5555", "3130", "1111"}) {
            int here = c(from);
            int steps = x.steps(here);
            for (int left = steps; left > 0; left--) {
                due("isRight on the way from " + from, x.isRight(here), false);
                here = x.hint(here);
                due("steps on the way from " + from, x.steps(here), left - 1);
            }
            due("isRight at the end from " + from, x.isRight(here), true);
            due("lead from " + from, x.lead(c(from)), here);
        }
    }

    // ---- Promise 18

    private static void nearestIfNoneWasMet() {
        says("Throws java.util.NoSuchElementException if none was met");
        Nudgelane x = new Nudgelane();
        dueCall("nearest on a new object", () -> x.nearest(0), ELEMENT);
        dueCall("refused begin", () -> x.begin(1296), INDEX);
        dueCall("refused pass", () -> x.pass(0), STATE);
        dueCall("nearest behind refused calls", () -> x.nearest(0), ELEMENT);
        x.begin(1295);
        dueCall("nearest of one met, under way", () -> x.nearest(0), 1295);
        x.end(false);
        dueCall("nearest of one met, given up", () -> x.nearest(0), 1295);
        dueCall("nearest to the one met", () -> x.nearest(1295), 1295);
    }

    private static void nearestOfSeveral() {
        says("the program that was met and to which the distance from a program is least");
        Nudgelane x = new Nudgelane();
        attempt(x, false, "2310", "5500");
        due("the distance there, not back", x.nearest(0), c("5500"));
        due("a met one is nearest to itself", x.nearest(c("2310")), c("2310"));
        due("of the code 0010 5500", x.nearest(c("0055")), c("5500"));
        says("of several the one with the least code");
        attempt(x, false, "5000", "3000", "4000");
        due("the least in the midst", x.nearest(0), c("3000"));
        due("a nearer one comes before a lesser code", x.nearest(c("5100")), c("5000"));
        attempt(x, false, "1000");
        due("the least met last", x.nearest(0), c("1000"));
        attempt(x, false, "0000");
        due("nothing, met by now", x.nearest(c("2100")), 0);
        Nudgelane y = new Nudgelane();
        attempt(y, false, "1000", "2000");
        due("the least met first", y.nearest(0), c("1000"));
        Nudgelane z = new Nudgelane();
        attempt(z, false, "3551");
        due("as far as can be", z.nearest(c("1124")), c("3551"));
        Nudgelane form = new Nudgelane();
        attempt(form, false, "1550", "5500");
        due("nearest is its form, not what is behind an edit of the code", form.nearest(c("0055")), c("5500"));
    }

    // ---- Terms: exceptions

    private static void namedFirst() {
        says("If several exceptions apply to a call, the one that its throws clause names first is thrown");
        Nudgelane x = new Nudgelane();
        for (int bad : NO_CODES) {
            dueCall("edit code and statement " + bad, () -> x.edit(bad, 0, bad), INDEX);
            dueCall("edit place and statement " + bad, () -> x.edit(0, bad, bad), INDEX);
            dueCall("edit all " + bad, () -> x.edit(bad, bad, bad), INDEX);
            dueCall("pass with none under way " + bad, () -> x.pass(bad), INDEX);
            dueCall("steps with none right " + bad, () -> x.steps(bad), INDEX);
            dueCall("hint with none right " + bad, () -> x.hint(bad), INDEX);
            dueCall("lead with none right " + bad, () -> x.lead(bad), INDEX);
            dueCall("nearest with none met " + bad, () -> x.nearest(bad), INDEX);
        }
        dueCall("edit place 4, statement 6", () -> x.edit(0, 4, 6), INDEX);
        dueCall("edit code 1296, statement -1", () -> x.edit(1296, 0, -1), INDEX);
        x.begin(0);
        dueCall("begin under way", () -> x.begin(1296), INDEX);
        passOn(x, 300, "0000");
        dueCall("pass behind 300", () -> x.pass(1296), INDEX);
        x.end(false);
        dueCall("pass behind 300 with none under way", () -> x.pass(-1), INDEX);
        Nudgelane y = new Nudgelane();
        attempts(y, 60, false, "0000");
        dueCall("begin behind 60", () -> y.begin(-1), INDEX);
    }

    /** What the object tells of its state. */
    private static List<Integer> state(Nudgelane x) {
        int[] codes = {0, 216, c("1100"), c("4500")};
        List<Integer> told = new ArrayList<>();
        told.add(x.at());
        told.add(x.met());
        for (int code : codes) {
            for (int other : codes) {
                told.add(x.passings(code, other));
            }
            told.add(one(x.isRight(code)));
            told.add(x.worth(code));
            told.add(answer(() -> x.steps(code)));
            told.add(answer(() -> x.hint(code)));
            told.add(answer(() -> x.lead(code)));
            told.add(answer(() -> x.nearest(code)));
        }
        return told;
    }

    private static void dueUnchanged(String when, Nudgelane x, boolean beginIsRefused, boolean passIsRefused) {
        List<Integer> before = state(x);
        boolean endIsRefused = x.at() == Nudgelane.NONE;
        for (int i = 0; i < CODE_CALLS.length; i++) {
            CodeCall call = CODE_CALLS[i];
            for (int code : NO_CODES) {
                dueCall(CODE_NAMES[i] + " " + code + ", " + when, () -> call.make(x, code), INDEX);
            }
        }
        dueCall("edit place, " + when, () -> x.edit(0, 4, 0), INDEX);
        dueCall("edit statement, " + when, () -> x.edit(0, 0, 6), ARGUMENT);
        if (beginIsRefused) {
            dueCall("begin, " + when, () -> x.begin(c("4500")), STATE);
        }
        if (passIsRefused) {
            dueCall("pass, " + when, () -> x.pass(c("4500")), STATE);
        }
        if (endIsRefused) {
            dueCall("end right, " + when, () -> x.end(true), STATE);
            dueCall("end, given up, " + when, () -> x.end(false), STATE);
        }
        due("the state, " + when, state(x).equals(before), true);
    }

    private static void changesNothing() {
        says("a call that throws changes nothing");
        Nudgelane x = new Nudgelane();
        dueUnchanged("new", x, false, true);
        Nudgelane y = new Nudgelane();
        attempt(y, true, "1000", "1100");
        dueUnchanged("between attempts", y, false, true);
        Nudgelane z = new Nudgelane();
        attempt(z, true, "1000", "1100");
        z.begin(c("1000"));
        dueUnchanged("under way", z, true, false);
        due("end, under way", z.end(false), c("1000"));
        due("worth behind that end", z.worth(c("1000")), 500000);
        Nudgelane sixty = new Nudgelane();
        attempts(sixty, 60, true, "1000");
        dueUnchanged("behind 60 attempts", sixty, true, true);
        Nudgelane passed = new Nudgelane();
        passed.begin(c("1000"));
        passOn(passed, 300, "1000");
        dueUnchangedBehind300(passed);
    }

    /** A shorter one, for the object has not so many calls left. */
    private static void dueUnchangedBehind300(Nudgelane x) {
        List<Integer> before = state(x);
        dueCall("pass behind 300", () -> x.pass(c("4500")), STATE);
        dueCall("begin behind 300", () -> x.begin(c("4500")), STATE);
        dueCall("pass behind 300, without a code", () -> x.pass(1296), INDEX);
        due("the state behind 300", state(x).equals(before), true);
        due("end behind 300", x.end(true), c("1000"));
        due("isRight behind 300", x.isRight(c("1000")), true);
    }

    private static void programs() {
        calls512();
        noneIsMinusOne();
        codesAre0To1295();
        noSuchCode();
        placeZeroFirst();
        rule1();
        rule2();
        rule3();
        rule4();
        noPlaceBehindTheLast();
        asLongAsARuleCanBeUsed();
        sameForm();
        newObject();
        editPlaces();
        editStatements();
        editInPlaceOfWhatIsThere();
        neighboursAmongThem();
        leastNumberOfEdits();
        someAlwaysDo();
        distanceOfEither();
    }

    private static void told() {
        beginUnderWay();
        sixtyHaveBegun();
        theSixtiethAttempt();
        refusedBeginsDoNotCount();
        metThen();
        passWithNoneUnderWay();
        threeHundredPassingsOfOneAttempt();
        threeHundredPassingsOfAll();
        refusedPassingsDoNotCount();
        whichMayBeTheSameOne();
        orWithWhichItBegan();
        rightFromThenOn();
        noneIfNoneIsUnderWay();
        metFull();
        howOften();
    }

    private static void worthsAndHints() {
        zeroIfThereAreNone();
        sixtyRounds();
        fromTheRoundBefore();
        atFirstZero();
        onceForEachTime();
        roundedDown();
        zeroTo1000000();
        noProgramIsRight();
        leastOfItsDistances();
        hintIfRight();
        stepsOneLess();
        greatestWorth();
        leastCode();
        followingHints();
        nearestIfNoneWasMet();
        nearestOfSeveral();
        namedFirst();
        changesNothing();
    }

    public static void main(String[] args) {
        programs();
        told();
        worthsAndHints();
        System.out.println(wrong == 0 ? sentences + " sentences hold" : wrong + " answers are not as due");
        if (wrong != 0) {
            System.exit(1);
        }
    }
}
