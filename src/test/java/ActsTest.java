/** Promises 11 to 16: strokes, cuts, catching, stuffing, days, undoing. */
public final class ActsTest {
    private static final String TEXT = "thing a 2 3;thing b 3 1;person p 12;person q 30;bed x 4;comb 8;"
        + "caught p a;caught p b;caught p b;";

    public static void main(String[] args) {
        whyNoStroke();
        strokes();
        aFullBag();
        cuts();
        catching();
        stuffing();
        days();
        lastDays();
        undoing();
        undoneActs();
        Check.finish();
    }

    private static void whyNoStroke() {
        CombedOut x = Check.of(TEXT);
        Check.due("stroke(0, 0)", x.stroke(0, 0), -1);
        Check.due("stroke(0, 21)", x.stroke(0, 21), -1);
        Check.due("stroke(0, -5)", x.stroke(0, -5), -1);
        Check.due("stroke(2, 1)", x.stroke(2, 1), -1);
        Check.due("stroke(-1, 1)", x.stroke(-1, 1), -1);
        Check.due("bare, and more than the comb", x.stroke(1, 20), 1);
        Check.due("stroke(0, 5)", x.stroke(0, 5), 2);
        Check.due("stroke(0, 9)", x.stroke(0, 9), 3);
        Check.due("stroke(0, 20), too much for p also", x.stroke(0, 20), 3);
        Check.due("stroke(0, 6)", x.stroke(0, 6), 0);
        Check.due("stroke(0, 7)", x.stroke(0, 7), 4);
        Check.due("stroke(0, 1)", x.stroke(0, 1), 2);
        Check.due("stroke(0, 6) just bears it", x.stroke(0, 6), 0);
        Check.due("PAIN", Check.person(x, 0, 1), 12);
        Check.due("nothing undone is counted", x.now(4), 2);
    }

    private static void strokes() {
        CombedOut x = Check.of(TEXT + "caught p a;");
        Check.due("stroke(0, 7): a alone", x.stroke(0, 7), 0);
        Check.due("row", Check.row(x, 0), "011");
        Check.due("PAIN is the force", Check.person(x, 0, 1), 7);
        x.undo();
        Check.due("stroke(0, 8): a and the b's", x.stroke(0, 8), 0);
        Check.due("row then", Check.row(x, 0), "0");
        Check.due("bag", x.now(1), 3);
        Check.due("b's in it", x.thing(1, 2), 2);
        x.undo();
        CombedOut y = Check.of("thing a 1 1;thing b 1 1;person p 99;caught p a;caught p b;caught p a;comb 20;");
        Check.due("all at once", y.stroke(0, 20), 0);
        Check.due("bare", Check.row(y, 0), "");
        Check.due("PAIN of it all", Check.person(y, 0, 1), 20);
        CombedOut w = Check.of("thing a 1 1;thing b 1 1;person p 99;comb 20;" + "caught p a;caught p b;".repeat(4));
        Check.due("eight knots by one stroke", w.stroke(0, 8), 0);
        Check.due("bare of them", Check.row(w, 0), "");
        Check.due("all eight in the bag", w.now(1), 8);
        Check.due("undone", w.undo(), 0);
        w.stroke(0, 7);
        Check.due("seven by one of 7", Check.row(w, 0), "0");
        // A KNOT comes out whole or not at all.
        CombedOut z = Check.of("thing a 1 1;thing b 2 1;person p 99;caught p a;caught p b;caught p b;caught p a;comb 20;");
        z.stroke(0, 4);
        Check.due("a whole knot stays", Check.row(z, 0), "011");
    }

    private static void aFullBag() {
        CombedOut x = Check.of("thing a 1 1;thing b 1 1;person p 99;person q 99;comb 20;" + "caught p a;".repeat(8)
            + "caught q b;" + "caught q a;".repeat(3));
        x.stroke(0, 8);
        Check.due("now(1)", x.now(1), 8);
        x.stroke(1, 20);
        Check.due("a full bag", x.now(1), 10);
        Check.due("a's", x.thing(0, 2), 10);
        Check.due("b's", x.thing(1, 2), 0);
        Check.due("lost", x.now(6), 2);
        Check.due("q is bare", Check.row(x, 1), "");
        Check.due("STILL of a", x.thing(0, 4), 10);
        Check.due("STILL of b", x.thing(1, 4), 0);
    }

    private static void cuts() {
        CombedOut x = Check.of(TEXT);
        Check.due("cut(1)", x.cut(1), 1);
        Check.due("cut(2)", x.cut(2), -1);
        Check.due("cut(-1)", x.cut(-1), -1);
        Check.due("cut(0)", x.cut(0), 0);
        Check.due("the knot is away", Check.row(x, 0), "0");
        Check.due("lost", x.now(6), 2);
        Check.due("bag", x.now(1), 0);
        Check.due("no PAIN", Check.person(x, 0, 1), 0);
        Check.due("CUTS", x.now(5), 1);
        Check.due("STROKES", x.now(4), 0);
    }

    private static void catching() {
        CombedOut x = Check.of(TEXT);
        Check.due("snag(0, 2)", x.snag(0, 2), -1);
        Check.due("snag(0, -1)", x.snag(0, -1), -1);
        Check.due("snag(2, 0)", x.snag(2, 0), -1);
        Check.due("snag(-1, 0)", x.snag(-1, 0), -1);
        for (int i = 0; i < 5; i++) {
            Check.due("snag(0, 0)", x.snag(0, 0), 0);
        }
        Check.due("row", Check.row(x, 0), "01100000");
        Check.due("a NEST", x.snag(0, 1), 1);
        Check.due("nothing is lost", x.now(6), 0);
    }

    private static void stuffing() {
        CombedOut x = Check.of(TEXT);
        Check.due("an empty bag", x.stuff(0, 0), 1);
        x.stroke(0, 6);
        Check.due("none such", x.stuff(0, 0), 1);
        Check.due("stuff(1, 1)", x.stuff(1, 1), -1);
        Check.due("stuff(-1, 1)", x.stuff(-1, 1), -1);
        Check.due("stuff(0, 2)", x.stuff(0, 2), -1);
        Check.due("stuff(0, -1)", x.stuff(0, -1), -1);
        Check.due("stuff(0, 1)", x.stuff(0, 1), 0);
        Check.due("SPRING", x.bed(0, 1), 1);
        Check.due("bag", x.now(1), 1);
        Check.due("b's in it", x.thing(1, 2), 1);
    }

    private static void days() {
        CombedOut x = Check.of(TEXT + "daily q a 2;daily q b 1;daily p a 3;daily q a 3;");
        x.stroke(0, 6);
        Check.due("days(0)", x.days(0), -1);
        Check.due("days(61)", x.days(61), -1);
        Check.due("days(-1)", x.days(-1), -1);
        Check.due("days(1)", x.days(1), 1);
        Check.due("no PAIN is left", Check.person(x, 0, 1), 0);
        Check.due("q on day 1", Check.row(x, 1), "1");
        x.days(1);
        Check.due("q on day 2", Check.row(x, 1), "101");
        x.days(1);
        Check.due("q on day 3", Check.row(x, 1), "10110");
        Check.due("p on day 3", Check.row(x, 0), "00");
        x.days(3);
        Check.due("q on day 6", Check.row(x, 1), "10110011");
        Check.due("nothing is lost", x.now(6), 0);
        Check.due("DAY", x.now(0), 6);
    }

    private static void lastDays() {
        CombedOut x = new CombedOut();
        for (int i = 0; i < 6; i++) {
            Check.due("days(60)", x.days(60), 60);
        }
        Check.due("days(39)", x.days(39), 39);
        Check.due("DAY 399", x.now(0), 399);
        Check.due("days(2)", x.days(2), 1);
        Check.due("DAY 400", x.now(0), 400);
        Check.due("days(1)", x.days(1), 0);
        Check.due("drawn(1, 1)", x.drawn(1, 1), 0);
        Check.due("undo()", x.undo(), 7);
        Check.due("DAY 399 again", x.now(0), 399);
    }

    private static void undoing() {
        CombedOut x = Check.of(TEXT);
        for (int i = 0; i < 10; i++) {
            x.days(1);
        }
        for (int i = 7; i >= 0; i--) {
            Check.due("undo()", x.undo(), i);
        }
        Check.due("undo() of none", x.undo(), -1);
        Check.due("DAY", x.now(0), 2);
        x.days(5);
        Check.due("undo() anew", x.undo(), 0);
        Check.due("DAY then", x.now(0), 2);
    }

    private static void undoneActs() {
        CombedOut x = Check.of(TEXT);
        x.stroke(1, 3);
        x.cut(1);
        x.stuff(0, 0);
        x.days(0);
        x.stroke(9, 9);
        Check.due("what was not done", x.undo(), -1);
        x.stroke(0, 8);
        x.stuff(0, 0);
        x.snag(1, 1);
        x.cut(1);
        Check.due("drawn", x.drawn(2, 7), 2);
        Check.book(x, 1, "day 2;q cut;q cut;q cut;q cut;q cut;q cut;q cut;q cut;q cut;");
        Check.sentence(x, "bare");
        Check.due("undo() a BOOK", x.undo(), 5);
        Check.due("DAY", x.now(0), 2);
        Check.due("undo() days drawn", x.undo(), 4);
        Check.due("undo() a cut", x.undo(), 3);
        Check.due("row", Check.row(x, 1), "1");
        Check.due("lost", x.now(6), 0);
        Check.due("undo() catching", x.undo(), 2);
        Check.due("row then", Check.row(x, 1), "");
        Check.due("undo() stuffing", x.undo(), 1);
        Check.due("SPRING", x.bed(0, 1), 0);
        Check.due("STILL", x.thing(0, 4), 1);
        Check.due("undo() a stroke", x.undo(), 0);
        Check.due("row at last", Check.row(x, 0), "011");
        Check.due("STROKES", x.now(4), 0);
        Check.due("the SENTENCE is no act", x.said(-1), 1);
        Check.book(x, 0, "day 2;");
        Check.due("a BOOK judged is no act", x.undo(), -1);
        Check.book(x, 1, "q cut;");
        Check.due("a BOOK of which no LINE was lived", x.undo(), -1);
        Check.book(x, 1, "");
        Check.due("a BOOK without LINES", x.undo(), -1);
    }
}
