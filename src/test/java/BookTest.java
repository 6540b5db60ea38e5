/** Promises 32 and 33, and 5 of BOOKS. */
public final class BookTest {
    private static final String TEXT = "thing a 2 3;thing b 3 1;person p 12;person q 30;bed x 4;comb 8;"
        + "caught p a;caught p b;caught p b;";

    public static void main(String[] args) {
        faults();
        faultsOfLength();
        otherLives();
        judged();
        lived();
        whyWrong();
        lastDays();
        toldStays();
        Check.finish();
    }

    private static void bad(String text, int place, int kind) {
        CombedOut x = Check.of(TEXT);
        Check.due("book '" + text + "'", Check.book(x, 1, text), -2 - place);
        Check.due("book '" + text + "', fault()", x.fault(), kind);
        Check.due("the tape", x.count(5), 0);
        Check.due("told(0)", x.told(0), -1);
        Check.due("nothing is lived", x.undo(), -1);
    }

    private static void faults() {
        bad(";", 0, 1);
        bad("day", 3, 1);
        bad("day 1", 5, 1);
        bad("day 0;", 4, 2);
        bad("day 61;", 4, 2);
        bad("day p;", 4, 1);
        bad("day 1;p", 7, 1);
        bad("p;", 1, 1);
        bad("p 1;", 2, 1);
        bad("p stroke;", 8, 1);
        bad("p stroke 0;", 9, 2);
        bad("p stroke 21;", 9, 2);
        bad("p stroke 1 1;", 11, 1);
        bad("p cut a;", 6, 1);
        bad("p catches;", 9, 1);
        bad("p catches p;", 10, 3);
        bad("p catches x;", 10, 3);
        bad("p catches c;", 10, 3);
        bad("p catches thing;", 10, 1);
        bad("p catches 1;", 10, 1);
        bad("p caught a;", 2, 1);
        bad("p stuff x a;", 2, 1);
        bad("p q;", 2, 1);
        bad("a cut;", 0, 3);
        bad("x cut;", 0, 3);
        bad("nobody cut;", 0, 3);
        bad("cut p;", 0, 1);
        bad("thing c 1 1;", 0, 1);
        bad("7 cut;", 0, 1);
        bad("stuff a x;", 6, 3);
        bad("stuff x p;", 8, 3);
        bad("stuff x;", 7, 1);
        bad("stuff 1 a;", 6, 1);
        bad("p cut;p1 cut;", 6, 1);
        bad("p cut;day 1000;", 10, 1);
        String forty = "p cut;".repeat(40);
        bad(forty + "p cut;", 240, 4);
        bad(forty + "day 1;", 240, 4);
        bad(forty + "stuff", 240, 4);
        bad(forty + "a cut;", 240, 3);
        bad(forty + "cut;", 240, 1);
        bad(forty + ";", 240, 1);
        CombedOut x = Check.of(TEXT);
        Check.due("forty LINES", Check.book(x, 0, forty), 2);
    }

    private static void faultsOfLength() {
        CombedOut x = Check.of(TEXT);
        Check.due("400 bytes", Check.book(x, 0, "day 1;" + " ".repeat(394)), -1);
        Check.due("fault()", x.fault(), 0);
        bad("day 1;" + " ".repeat(395), 400, 1);
        bad(" ".repeat(395) + "day 1;", 400, 1);
        bad(" ".repeat(395) + "day 61;", 399, 2);
        bad(" ".repeat(399) + "oh cut;", 399, 3);
        bad(" ".repeat(400) + "oh cut;", 400, 1);
    }

    private static void otherLives() {
        CombedOut x = Check.of(TEXT);
        Check.book(x, 0, "oh");
        Check.feed(x, "day 1;");
        Check.due("book(2)", x.book(2), -1000);
        Check.due("book(-1)", x.book(-1), -1000);
        Check.due("the tape stays", x.count(5), 6);
        Check.due("fault() stays", x.fault(), 3);
        Check.due("told(0)", x.told(0), -1);
        Check.due("book(1)", x.book(1), -1);
        Check.due("fault()", x.fault(), 0);
        Check.due("DAY", x.now(0), 1);
        Check.due("the tape is empty", x.count(5), 0);
    }

    private static void told(CombedOut x, int why, int lines, int day, int bag) {
        Check.due("told(0)", x.told(0), why);
        Check.due("told(1)", x.told(1), lines);
        Check.due("told(2)", x.told(2), day);
        Check.due("told(3)", x.told(3), bag);
        Check.due("told(4)", x.told(4), -1);
        Check.due("told(-1)", x.told(-1), -1);
    }

    private static final String GOOD = "p stroke 6;\nstuff x b; day 2; q catches a;q catches a;q cut;p stroke 3;";

    private static void judged() {
        CombedOut x = Check.of(TEXT);
        Check.due("book(0)", Check.book(x, 0, GOOD), -1);
        told(x, 0, 7, 2, 2);
        Check.due("the row stays", Check.row(x, 0), "011");
        Check.due("the DAY stays", x.now(0), 0);
        Check.due("the bag stays", x.now(1), 0);
        Check.due("no act", x.undo(), -1);
        Check.due("book(0)", Check.book(x, 0, GOOD + "q cut;day 60;"), 7);
        told(x, 11, 7, 2, 2);
        Check.due("no LINES", Check.book(x, 0, ""), -1);
        told(x, 0, 0, 0, 0);
    }

    private static void lived() {
        CombedOut x = Check.of(TEXT);
        Check.due("book(1)", Check.book(x, 1, GOOD + "q cut;day 60;"), 7);
        told(x, 11, 7, 2, 2);
        Check.due("DAY", x.now(0), 2);
        Check.due("bag", x.now(1), 2);
        Check.due("SPRING", x.bed(0, 1), 1);
        Check.due("p is bare", Check.row(x, 0), "");
        Check.due("p's PAIN", Check.person(x, 0, 1), 3);
        Check.due("STROKES", x.now(4), 2);
        Check.due("CUTS", x.now(5), 1);
        Check.due("lost", x.now(6), 2);
        Check.due("one act", x.undo(), 0);
        Check.due("row", Check.row(x, 0), "011");
        Check.due("DAY", x.now(0), 0);
    }

    private static void wrong(String text, int line, int why) {
        CombedOut x = Check.of(TEXT);
        Check.due("book '" + text + "'", Check.book(x, 1, text), line);
        Check.due("book '" + text + "', why", x.told(0), why);
        Check.due("LINES that are not", x.told(1), line);
    }

    private static void whyWrong() {
        wrong("q stroke 20;", 0, 1);
        wrong("p stroke 5;", 0, 2);
        wrong("p stroke 9;", 0, 3);
        wrong("p stroke 6;p stroke 7;", 1, 4);
        wrong("q cut;", 0, 11);
        wrong("q catches a;".repeat(9), 8, 21);
        wrong("stuff x a;", 0, 31);
        wrong("p stroke 6;stuff x b;stuff x b;stuff x b;", 3, 31);
        wrong("day 60;".repeat(7), 6, 41);
    }

    private static void lastDays() {
        CombedOut x = Check.of(TEXT);
        Check.due("all DAYS", Check.book(x, 1, "day 60;".repeat(6) + "day 40;"), -1);
        Check.due("told(2)", x.told(2), 400);
        Check.due("one more", Check.book(x, 1, "q catches a;day 1;"), 1);
        told(x, 41, 1, 400, 0);
        x.undo();
        x.undo();
        Check.due("of too many none goes", Check.book(x, 1, "day 60;".repeat(6) + "day 41;"), 6);
        Check.due("DAY", x.now(0), 360);
    }

    private static void toldStays() {
        CombedOut x = Check.of(TEXT);
        Check.book(x, 0, "day 3;q cut;");
        Check.book(x, 0, "day 5;oh;");
        told(x, 11, 1, 3, 0);
        Check.quarter(x, "");
        told(x, 11, 1, 3, 0);
    }
}
