/** Promises 4, 5 and 38: QUARTERS and their FAULTS. */
public final class QuarterTest {
    private static final String BASE = "thing t 1 1;person p 9;bed b 5;";

    public static void main(String[] args) {
        goodOnes();
        faultsOfTokens();
        faultsOfNumbers();
        faultsOfNames();
        faultsOfMany();
        faultsOfLength();
        aFaultLeavesAll();
        aNewOneIsFresh();
        nothingIsLeftOfTrials();
        Check.finish();
    }

    private static void good(String text, int lines) {
        CombedOut x = new CombedOut();
        Check.due("quarter '" + text + "'", Check.quarter(x, text), lines);
        Check.due("its fault()", x.fault(), 0);
        Check.due("its tape", x.count(5), 0);
    }

    private static void bad(String text, int place, int kind) {
        CombedOut x = new CombedOut();
        Check.due("quarter '" + text + "'", Check.quarter(x, text), -1 - place);
        Check.due("quarter '" + text + "', fault()", x.fault(), kind);
        Check.due("its tape", x.count(5), 0);
    }

    private static void goodOnes() {
        good("", 0);
        good(" \n ", 0);
        good("comb 20;", 1);
        good("thing\nt 001 0;person p 099;\n bed b 99 ;", 3);
        good("thing abcdefg 9 9;", 1);
        good("person p 1;thing t 1 1;caught p t;daily p t 9;comb 1;", 5);
        good("thing things 1 1;", 1);
        CombedOut x = Check.of("thing t 1 1;thing u 1 1;person p 9;bed b 1;bed c 1;bed d 1;daily p t 1;comb 13;");
        Check.due("count(0)", x.count(0), 2);
        Check.due("count(1)", x.count(1), 1);
        Check.due("count(2)", x.count(2), 1);
        Check.due("count(3)", x.count(3), 3);
        Check.due("count(4)", x.count(4), 13);
    }

    private static void faultsOfTokens() {
        bad(";", 0, 1);
        bad("x", 0, 1);
        bad("  9;", 2, 1);
        bad("thing", 5, 1);
        bad("thing  ", 7, 1);
        bad("thing t 1 1", 11, 1);
        bad("thing t 1 1 comb 1;", 12, 1);
        bad("thing t 1;", 9, 1);
        bad("thing 1 1 1;", 6, 1);
        bad("thing t1 1 1;", 6, 1);
        bad("thing abcdefgh 1 1;", 6, 1);
        bad("thing t 1000 1;", 8, 1);
        bad("thing t 1x 1;", 8, 1);
        bad("thing t 1.1;", 9, 1);
        bad("thing T 1 1;", 6, 1);
        bad("thing\tt 1 1;", 5, 1);
        bad("thing t -1 1;", 8, 1);
        bad("thing t (1 1;", 8, 1);
        bad("stroke t 1;", 0, 1);
        bad("bare;", 0, 1);
        bad("thing7 t 1 1;", 0, 1);
        bad("thing t 1 1;;", 12, 1);
        bad("comb;", 4, 1);
        bad("comb x;", 5, 1);
        bad("thing t 1 1;\u00e9", 12, 1);
        for (String word : "thing person caught daily bed comb stroke cut catches stuff day or and not bare nest sore has like knots pain number".split(" ")) {
            bad("thing " + word + " 1 1;", 6, 1);
            bad(BASE + "caught " + word + " t;", BASE.length() + 7, 1);
            bad(BASE + "daily p " + word + " 1;", BASE.length() + 8, 1);
        }
    }

    private static void faultsOfNumbers() {
        bad("thing t 0 1;", 8, 2);
        bad("thing t 10 1;", 8, 2);
        bad("thing t 1 10;", 10, 2);
        bad("person p 0;", 9, 2);
        bad("person p 100;", 9, 2);
        bad("bed b 0;", 6, 2);
        bad("bed b 100;", 6, 2);
        bad("comb 0;", 5, 2);
        bad("comb 21;", 5, 2);
        bad(BASE + "daily p t 0;", BASE.length() + 10, 2);
        bad(BASE + "daily p t 10;", BASE.length() + 10, 2);
    }

    private static void faultsOfNames() {
        int n = BASE.length();
        bad(BASE + "thing t 1 1;", n + 6, 3);
        bad(BASE + "thing p 1 1;", n + 6, 3);
        bad(BASE + "thing b 1 1;", n + 6, 3);
        bad(BASE + "person t 1;", n + 7, 3);
        bad(BASE + "bed p 1;", n + 4, 3);
        bad(BASE + "caught q t;", n + 7, 3);
        bad(BASE + "caught t t;", n + 7, 3);
        bad(BASE + "caught p p;", n + 9, 3);
        bad(BASE + "caught p b;", n + 9, 3);
        bad(BASE + "daily b t 1;", n + 6, 3);
        bad(BASE + "daily p u 1;", n + 8, 3);
        bad("comb 9;comb 9;", 7, 3);
        bad("comb 9;comb x", 7, 3);
        bad("person p 9;caught p t;thing t 1 1;", 20, 3);
    }

    private static String many(String before, String after, int n) {
        StringBuilder text = new StringBuilder();
        for (int i = 0; i < n; i++) {
            text.append(before).append((char) ('a' + i)).append(after);
        }
        return text.toString();
    }

    private static void faultsOfMany() {
        String eight = many("thing ", " 1 1;", 8);
        good(eight, 8);
        bad(eight + "thing a 1 1;", eight.length(), 4);
        bad(eight + "thing", eight.length(), 4);
        String six = many("person ", " 1;", 6);
        good(six, 6);
        bad(six + "person g 1;", six.length(), 4);
        String four = many("bed ", " 1;", 4);
        good(four, 4);
        bad(four + "bed e 1;", four.length(), 4);
        String daily = BASE + "daily p t 1;".repeat(12);
        good(daily, 15);
        bad(daily + "daily q t 1;", daily.length(), 4);
        String caught = BASE + "caught p t;".repeat(8);
        good(caught, 11);
        bad(caught + "caught p t;", caught.length() + 7, 4);
        bad(caught + "caught p u;", caught.length() + 7, 4);
        bad(caught + "caught q t;", caught.length() + 7, 3);
        good(caught + "person q 1;caught q t;", 13);
    }

    private static void faultsOfLength() {
        good("comb 5;" + " ".repeat(893), 1);
        bad("comb 5;" + " ".repeat(894), 900, 1);
        bad("comb 5;" + " ".repeat(893) + "comb 5;", 900, 1);
        bad("comb 5" + " ".repeat(895), 900, 1);
        bad("comb 5" + " ".repeat(894), 900, 1);
        // A TOKEN that begins ahead of the limit is read whole, and may be a FAULT there.
        bad(" ".repeat(898) + "comb 5;", 900, 1);
        bad(" ".repeat(898) + "combs 5;", 898, 1);
        bad("thing t 1 1;" + " ".repeat(881) + "thing t", 899, 3);
        bad(" ".repeat(895) + "comb 21;", 900, 1);
        bad(" ".repeat(894) + "comb 21;", 899, 2);
        bad(" ".repeat(894) + "comb 20;", 900, 1);
        bad("x" + " ".repeat(939), 0, 1);
    }

    private static void aFaultLeavesAll() {
        CombedOut x = Check.of(BASE + "caught p t;");
        x.days(3);
        Check.sentence(x, "bare");
        Check.quarter(x, "thing z 9 9;person q 3;oh");
        Check.due("fault()", x.fault(), 1);
        Check.due("the QUARTER stays", x.count(3), 1);
        Check.due("the DAY stays", x.now(0), 3);
        Check.due("the row stays", x.layer(0, 0), 0);
        Check.due("the SENTENCE stays", x.said(-1), 0);
        Check.due("undo() still can", x.undo(), 0);
        Check.due("fault() stays", x.fault(), 1);
        Check.quarter(x, "");
        Check.due("fault() of a good one", x.fault(), 0);
        Check.due("nobody is there", x.count(1), 0);
    }

    private static void aNewOneIsFresh() {
        CombedOut x = Check.of("thing t 1 3;person p 9;person q 9;bed b 3;caught p t;caught p t;caught q t;");
        x.stroke(0, 2);
        x.cut(1);
        x.stuff(0, 0);
        x.days(2);
        Check.sentence(x, "bare");
        Check.due("now(6) ahead", x.now(6), 1);
        Check.quarter(x, "thing t 1 3;person p 9;bed b 3;caught p t;");
        for (int what = 0; what <= 6; what++) {
            Check.due("new quarter: now(" + what + ")", x.now(what), 0);
        }
        Check.due("PAIN", Check.person(x, 0, 1), 0);
        Check.due("bag", x.thing(0, 2), 0);
        Check.due("STILL", x.thing(0, 4), 1);
        Check.due("SPRING", x.bed(0, 1), 0);
        Check.due("things in the bed", x.bed(0, 3), 0);
        Check.due("said(-1)", x.said(-1), -1);
        Check.due("comb", x.count(4), 9);
        Check.due("undo()", x.undo(), -1);
    }

    private static void nothingIsLeftOfTrials() {
        String text = "thing t 1 3;person p 9;bed b 3;caught p t;caught p t;";
        CombedOut x = Check.of(text);
        Check.book(x, 0, "p stroke 2;stuff b t;p catches t;p cut;p catches t;day 7;p stroke 1;");
        x.odds(0, 30, 1);
        Check.book(x, 0, "p stroke 2;stuff b t;p catches t;p cut;p catches t;day 7;p stroke 1;");
        Check.quarter(x, "oh");
        Check.book(x, 0, "p stroke 2;stuff b t;p catches t;p cut;p catches t;day 7;p stroke 1;");
        Check.quarter(x, text);
        for (int what = 0; what <= 6; what++) {
            Check.due("behind trials: now(" + what + ")", x.now(what), 0);
        }
        Check.due("PAIN", Check.person(x, 0, 1), 0);
        Check.due("things in his hair", Check.person(x, 0, 2), 2);
        Check.due("bag", x.thing(0, 2), 0);
        Check.due("STILL", x.thing(0, 4), 2);
        Check.due("SPRING", x.bed(0, 1), 0);
        Check.due("things in the bed", x.bed(0, 3), 0);
    }
}
