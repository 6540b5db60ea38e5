import java.util.function.ToLongFunction;

/** Promises 1 to 10 and 32 to 38, and what a refused call leaves: a test for each sentence that names an edge. */
public final class CallEdgesTest {
    private static final int[] FAR = {Integer.MIN_VALUE, Integer.MIN_VALUE + 1, -2, -1, 99, 1000, Integer.MAX_VALUE};
    private static final String QUARTER = "thing a 1 2;thing b 2 0;person p 20;person q 9;bed x 2;bed y 9;comb 8;daily q a 2;"
        + "caught p a;caught p b;caught p b;caught p a;caught q b;";

    public static void main(String[] args) {
        aNewObject();
        feedBytes();
        feedFull();
        endFirst();
        endFalse();
        quarterTape();
        quarterFaultStays();
        quarterNew();
        faultLatest();
        personWhat();
        personThrows();
        layers();
        thingWhat();
        bedWhat();
        nowWhat();
        soFar();
        bookJudged();
        bookLived();
        bookFault();
        bookOtherLives();
        toldWhy();
        toldThen();
        toldNone();
        sentenceTape();
        sentenceFaultStays();
        saidOf();
        imagePlaces();
        restorePlaces();
        restoreAll();
        restoreStays();
        counts();
        asFullAsCanBe();
        refusedCallsChangeNothing();
        askingChangesNothing();
        Check.finish();
    }

    private static void aNewObject() {
        Check.says("A QUARTER without anything; an empty tape");
        CombedOut x = new CombedOut();
        int[] counts = {0, 0, 0, 0, 9, 0};
        for (int what = 0; what <= 5; what++) {
            Check.due("count(" + what + ")", x.count(what), counts[what]);
        }
        for (int what = 0; what <= 6; what++) {
            Check.due("now(" + what + ")", x.now(what), 0);
        }
        Check.due("no PERSON", Check.person(x, 0, 0), Check.THROWS);
        Check.due("no THING", x.thing(0, 0), -1);
        Check.due("no BED", x.bed(0, 0), -1);
        Check.due("an empty BOOK", x.book(1), -1);
        Check.due("no SENTENCE", x.said(-1), -1);
        // Two objects have nothing in common.
        CombedOut y = Check.of(QUARTER);
        x.feed(1, 2, 3, 4, 5);
        Check.due("x has nobody", x.count(1), 0);
        Check.due("y has no tape", y.count(5), 0);
    }

    private static void feedBytes() {
        Check.says("Twenty bytes come behind the tape, of each number the highest first: how many it has");
        CombedOut x = Check.of("thing a 1 1;thing b 1 1;thing c 1 1;thing d 1 1;thing e 1 1;thing f 1 1;thing g 1 1;thing h 1 1;"
            + "person p 9;caught p a;caught p b;caught p c;caught p d;caught p e;caught p f;caught p g;caught p h;");
        Check.due("feed", x.feed(0x00010203, 0x04050607, 0, 0, 0), 20);
        x.end(8);
        Check.due("0 to 7", x.fits(), 1);
        x.feed(0x03ffffff, -1, -1, -1, -1);
        x.end(1);
        Check.due("behind one", x.feed(0x04050607, 0, 0, 0, 0), 21);
        x.end(5);
        Check.due("3 to 7", x.fits(), 1);
        x.feed(0x07060504, 0, 0, 0, 0);
        x.end(4);
        Check.due("the other way round", x.fits(), 0);
        // The fifth number's last byte is the last on the tape.
        CombedOut y = new CombedOut();
        y.feed(0x20202020, 0x20202020, 0x20202020, 0x2020636f, 0x6d622037);
        y.feed(0x3b202020, 0x20202020, 0x20202020, 0x20202020, 0x2020203b);
        Check.due("a FAULT at the 40th byte", y.quarter(), -1 - 39);
        y.feed(0x20202020, 0x20202020, 0x20202020, 0x2020636f, 0x6d622037);
        y.feed(0x3b202020, 0x20202020, 0x20202020, 0x20202020, 0x2020200a);
        Check.due("no FAULT", y.quarter(), 1);
        Check.due("comb", y.count(4), 7);
        y.feed(0x80000000, 0, 0, 0, 0);
        Check.due("a byte above 127", y.quarter(), -1);
    }

    private static void feedFull() {
        Check.says("NONE, and none come, if it would have more than 940");
        CombedOut x = new CombedOut();
        for (int i = 1; i <= 47; i++) {
            Check.due("feed", x.feed(0x20202020, 0x20202020, 0x20202020, 0x20202020, 0x20202020), 20 * i);
        }
        Check.due("the 48th", x.feed(0, 0, 0, 0, 0), -1);
        Check.due("940", x.count(5), 940);
        x.end(921);
        Check.due("behind 921", x.feed(0, 0, 0, 0, 0), -1);
        Check.due("921", x.count(5), 921);
        x.end(920);
        Check.due("behind 920", x.feed(0x20202020, 0x20202020, 0x20202020, 0x20202020, 0x20202020), 940);
        x.end(900);
        Check.due("none of the refused came", x.quarter(), 0);
        Check.due("behind a text it is empty", x.feed(0, 0, 0, 0, 0), 20);
    }

    private static void endFirst() {
        Check.says("The tape has its first n bytes alone: true");
        CombedOut x = new CombedOut();
        Check.due("end(0) of none", x.end(0), true);
        Check.feed(x, "comb 5;comb 6;comb 7;");
        Check.due("end(21)", x.end(21), true);
        Check.due("all stay", x.count(5), 21);
        Check.due("end(7)", x.end(7), true);
        Check.due("7", x.count(5), 7);
        Check.due("the first of them", x.quarter(), 1);
        Check.due("comb", x.count(4), 5);
        x.feed(1, 2, 3, 4, 5);
        Check.due("end(0)", x.end(0), true);
        Check.due("none", x.count(5), 0);
    }

    private static void endFalse() {
        Check.says("false, if it has not so many, or n is below 0");
        CombedOut x = new CombedOut();
        Check.due("end(1) of none", x.end(1), false);
        x.feed(1, 2, 3, 4, 5);
        Check.due("end(21)", x.end(21), false);
        Check.due("end(20)", x.end(20), true);
        for (int far : FAR) {
            Check.due("end(" + far + ")", x.end(far), false);
        }
        Check.due("all stay", x.count(5), 20);
        x.end(5);
        Check.due("those beyond are gone", x.end(6), false);
    }

    private static void quarterTape() {
        Check.says("The tape (empty then, here and below)");
        CombedOut x = new CombedOut();
        Check.quarter(x, QUARTER);
        Check.due("quarter()", x.count(5), 0);
        Check.quarter(x, "oh");
        Check.due("quarter() with a FAULT", x.count(5), 0);
        Check.fits(x, 0);
        Check.due("fits()", x.count(5), 0);
        Check.fits(x, 9);
        Check.due("fits() of NONE", x.count(5), 0);
        Check.book(x, 0, "day 1;");
        Check.due("book()", x.count(5), 0);
        Check.book(x, 1, "q cut;q cut;");
        Check.due("book() that is WRONG", x.count(5), 0);
        Check.book(x, 1, "oh");
        Check.due("book() with a FAULT", x.count(5), 0);
        Check.sentence(x, "bare");
        Check.due("sentence()", x.count(5), 0);
        Check.sentence(x, "oh");
        Check.due("sentence() with a FAULT", x.count(5), 0);
    }

    private static void quarterFaultStays() {
        Check.says("-1 less the place of a FAULT: it stays");
        CombedOut x = Check.of(QUARTER);
        x.stroke(0, 5);
        Check.sentence(x, "has b");
        String seen = Look.at(x);
        Check.due("at 0", Check.quarter(x, "oh"), -1);
        Check.due("at the end", Check.quarter(x, "thing z 9 9;person m 3;caught m z;bed k 1;comb 20"), -1 - 49);
        Check.due("behind LINES", Check.quarter(x, "thing z 9 9;person m 3;caught m z;comb 20;;"), -1 - 42);
        Check.due("all is as it was", Look.at(x), seen);
        Check.due("and can be undone", x.undo(), 0);
        Check.due("the act is undone", Check.row(x, 0), "0110");
    }

    private static void quarterNew() {
        Check.says("A new QUARTER: DAY 0, an empty BAG, no SPRING in BEDS, no PAIN, no SENTENCE");
        CombedOut x = Check.of(QUARTER);
        x.stroke(0, 5);
        x.stuff(0, 0);
        x.days(3);
        x.stroke(0, 1);
        x.cut(1);
        x.snag(0, 1);
        Check.sentence(x, "has b");
        // Neither what was judged nor what was told with a FAULT comes into a new one.
        Check.book(x, 0, "p catches a;p stroke 8;stuff x a;day 1;p catches a;p catches b;p stroke 2;p cut;");
        Check.quarter(x, "thing z 1 1;person m 9;person n 9;daily n z 1;bed k 1;bed l 1;caught n z;oh");
        Check.book(x, 0, "p catches a;p stroke 8;stuff x a;day 1;p catches a;p catches b;p stroke 2;p cut;");
        Check.due("that BOOK is lived through", x.told(0), 0);
        Check.due("LINES", Check.quarter(x, QUARTER), 13);
        Check.due("'daily'", x.count(2), 1);
        Check.due("DAY", x.now(0), 0);
        Check.due("the bag", x.now(1), 0);
        Check.due("a in the bag", x.thing(0, 2), 0);
        Check.due("SPRING", x.bed(0, 1), 0);
        Check.due("things in the BED", x.bed(0, 3), 0);
        Check.due("nobody sleeps", x.now(2), 0);
        Check.due("PAIN", Check.person(x, 0, 1), 0);
        Check.due("no SENTENCE", x.said(-1), -1);
        Check.due("STROKES, CUTS, lost things", x.now(4) + x.now(5) + x.now(6), 0);
        Check.due("rows as told", Check.row(x, 0) + " " + Check.row(x, 1), "0110 1");
        Check.due("STILL", x.thing(0, 4), 2);
        Check.due("an empty text", Check.quarter(x, ""), 0);
        Check.due("nobody is there", x.count(1), 0);
        Check.due("no PERSON", Check.person(x, 0, 0), Check.THROWS);
    }

    private static void faultLatest() {
        Check.says("The kind of the FAULT of the latest quarter(), book() or sentence() (a book() of -1000 leaves it); "
            + "0 without one and ahead of any");
        CombedOut x = new CombedOut();
        Check.due("ahead of any", x.fault(), 0);
        Check.quarter(x, "comb 0;");
        Check.due("of quarter()", x.fault(), 2);
        x.book(2);
        Check.due("book(2) leaves it", x.fault(), 2);
        Check.fits(x, 9);
        x.days(0);
        x.image(5);
        Check.due("other calls leave it", x.fault(), 2);
        Check.book(x, 0, "day 1;");
        Check.due("of a book() without one", x.fault(), 0);
        Check.book(x, 0, "p cut;");
        Check.due("of book()", x.fault(), 3);
        Check.sentence(x, "bare");
        Check.due("of a sentence() without one", x.fault(), 0);
        Check.sentence(x, "not ".repeat(8) + "bare");
        Check.due("of sentence()", x.fault(), 4);
        Check.quarter(x, QUARTER);
        Check.due("of a quarter() without one", x.fault(), 0);
        Check.due("a BOOK that is WRONG", Check.book(x, 0, "q cut;q cut;"), 1);
        Check.due("is no FAULT", x.fault(), 0);
        Check.sentence(x, "");
        Check.due("of an empty one", x.fault(), 1);
    }

    private static void personWhat() {
        Check.says("Of a PERSON: 0 BEARS, 1 PAIN, 2 things in his hair, 3 KNOTS, 4 what the outside KNOT holds "
            + "(0: nothing is there), 5 what all do, 6 a NEST (1, 0)");
        CombedOut x = Check.of(QUARTER + "caught q b;".repeat(7));
        int[] p = {20, 0, 4, 3, 1, 6, 0};
        int[] q = {9, 0, 8, 1, 16, 16, 1};
        for (int what = 0; what <= 6; what++) {
            Check.due("p's " + what, Check.person(x, 0, what), p[what]);
            Check.due("q's " + what, Check.person(x, 1, what), q[what]);
        }
        x.stroke(0, 8);
        x.cut(1);
        int[] bareP = {20, 8, 0, 0, 0, 0, 0};
        int[] bareQ = {9, 0, 0, 0, 0, 0, 0};
        for (int what = 0; what <= 6; what++) {
            Check.due("bare p's " + what, Check.person(x, 0, what), bareP[what]);
            Check.due("bare q's " + what, Check.person(x, 1, what), bareQ[what]);
        }
    }

    private static void personThrows() {
        Check.says("NoSuchElementException: no such ones; a call that throws changes nothing");
        CombedOut x = Check.of(QUARTER);
        x.days(1);
        String seen = Look.at(x);
        Check.due("person(2, 0)", Check.person(x, 2, 0), Check.THROWS);
        Check.due("person(0, 7)", Check.person(x, 0, 7), Check.THROWS);
        for (int far : FAR) {
            Check.due("person(" + far + ", 0)", Check.person(x, far, 0), Check.THROWS);
            Check.due("person(0, " + far + ")", Check.person(x, 0, far), Check.THROWS);
            Check.due("mean(" + far + ", 0)", Check.mean(x, far, 0), Check.THROWS);
        }
        Check.due("all is as it was", Look.at(x), seen);
        Check.due("undo()", x.undo(), 0);
    }

    private static void layers() {
        Check.says("The THING of layer k (from the crown, 0 and on) of a PERSON's hair; NONE: none such, no such one");
        CombedOut x = Check.of(QUARTER + "caught q a;".repeat(7));
        int[] p = {0, 1, 1, 0, -1, -1, -1, -1, -1};
        int[] q = {1, 0, 0, 0, 0, 0, 0, 0, -1};
        for (int k = 0; k <= 8; k++) {
            Check.due("layer(0, " + k + ")", x.layer(0, k), p[k]);
            Check.due("layer(1, " + k + ")", x.layer(1, k), q[k]);
        }
        Check.due("layer(2, 0)", x.layer(2, 0), -1);
        for (int far : FAR) {
            Check.due("layer(0, " + far + ")", x.layer(0, far), -1);
            Check.due("layer(" + far + ", 0)", x.layer(far, 0), -1);
        }
        x.cut(0);
        Check.due("what was cut is none", x.layer(0, 3), -1);
        Check.due("what is below it stays", x.layer(0, 2), 1);
    }

    private static void thingWhat() {
        Check.says("Of a THING: 0 HOLD, 1 SPRING, 2 how many are in the BAG, 3 PERSONS who have it in their hair, as bits, "
            + "4 STILL. NONE: no such ones");
        CombedOut x = Check.of(QUARTER);
        x.stroke(0, 1);
        int[] a = {1, 2, 1, 1, 2};
        int[] b = {2, 0, 0, 3, 3};
        for (int what = 0; what <= 4; what++) {
            Check.due("a's " + what, x.thing(0, what), a[what]);
            Check.due("b's " + what, x.thing(1, what), b[what]);
        }
        Check.due("thing(2, 0)", x.thing(2, 0), -1);
        Check.due("thing(0, 5)", x.thing(0, 5), -1);
        for (int far : FAR) {
            Check.due("thing(" + far + ", 0)", x.thing(far, 0), -1);
            Check.due("thing(0, " + far + ")", x.thing(0, far), -1);
        }
        CombedOut y = Check.of("thing a 1 1;person p 1;person q 1;person r 1;person s 1;person t 1;person u 1;caught u a;caught p a;");
        Check.due("the first and the last", y.thing(0, 3), 33);
        y.cut(0);
        Check.due("the last alone", y.thing(0, 3), 32);
    }

    private static void bedWhat() {
        Check.says("Of a BED: 0 NEEDS, 1 SPRING, 2 one sleeps (1, 0), 3 things in it. NONE: no such ones");
        CombedOut x = Check.of(QUARTER);
        x.stroke(0, 6);
        x.stuff(0, 1);
        x.stuff(0, 0);
        int[] due = {2, 2, 1, 2};
        int[] other = {9, 0, 0, 0};
        for (int what = 0; what <= 3; what++) {
            Check.due("x's " + what, x.bed(0, what), due[what]);
            Check.due("y's " + what, x.bed(1, what), other[what]);
        }
        Check.due("bed(2, 0)", x.bed(2, 0), -1);
        Check.due("bed(0, 4)", x.bed(0, 4), -1);
        for (int far : FAR) {
            Check.due("bed(" + far + ", 0)", x.bed(far, 0), -1);
            Check.due("bed(0, " + far + ")", x.bed(0, far), -1);
        }
    }

    private static void nowWhat() {
        Check.says("0 the DAY, 1 things in the BAG, in all, 2 BEDS on which one sleeps, 3 NESTS, as bits each. "
            + "NONE for another what");
        CombedOut x = Check.of("thing a 1 9;person p 9;person q 9;person r 9;bed x 9;bed y 9;bed z 18;" + "caught r a;".repeat(8)
            + "caught p a;".repeat(8) + "caught q a;".repeat(4));
        Check.due("p and r", x.now(3), 5);
        x.stroke(1, 4);
        x.stuff(2, 0);
        x.stuff(1, 0);
        x.stuff(2, 0);
        x.days(2);
        int[] due = {2, 1, 6, 5, 1, 0, 0};
        for (int what = 0; what <= 6; what++) {
            Check.due("now(" + what + ")", x.now(what), due[what]);
        }
        Check.due("now(7)", x.now(7), -1);
        for (int far : FAR) {
            Check.due("now(" + far + ")", x.now(far), -1);
        }
    }

    private static void soFar() {
        Check.says("4 STROKES, 5 CUTS, 6 lost things (also CUT ones) so far");
        CombedOut x = Check.of("thing a 1 1;thing b 1 1;person p 99;person q 99;comb 20;" + "caught p a;".repeat(8)
            + "caught q a;caught q a;caught q b;caught q b;caught q b;");
        x.stroke(0, 8);
        Check.due("STROKES", x.now(4), 1);
        x.stroke(0, 8);
        Check.due("one that was not done", x.now(4), 1);
        x.cut(1);
        Check.due("CUTS", x.now(5), 1);
        Check.due("lost by a cut", x.now(6), 3);
        x.snag(1, 1);
        x.stroke(1, 20);
        Check.due("lost by a full bag, too", x.now(6), 4);
        Check.due("STROKES then", x.now(4), 2);
        x.cut(1);
        Check.due("a cut that was not done", x.now(5), 1);
        Check.book(x, 1, "q catches a;q cut;q catches a;q stroke 1;");
        Check.due("STROKES of a BOOK", x.now(4), 3);
        Check.due("CUTS of a BOOK", x.now(5), 2);
        Check.due("lost in a BOOK", x.now(6), 6);
        Check.book(x, 0, "q catches a;q cut;q catches a;q stroke 1;");
        Check.due("STROKES of a BOOK that is judged", x.now(4), 3);
        x.days(1);
        Check.due("a DAY leaves them", x.now(4) + x.now(5) + x.now(6), 11);
        x.undo();
        x.undo();
        Check.due("they are undone, too", x.now(4) * 100 + x.now(5) * 10 + x.now(6), 214);
    }

    private static void bookJudged() {
        Check.says("it is judged, all staying as it is (lives 0)");
        CombedOut x = Check.of(QUARTER);
        x.days(1);
        Check.sentence(x, "has b");
        String seen = Look.state(x);
        Check.due("one without a WRONG LINE", Check.book(x, 0, "p stroke 5;stuff x a;q cut;q catches a;day 2;"), -1);
        Check.due("one with", Check.book(x, 0, "p stroke 5;stuff x a;q cut;q cut;day 2;"), 3);
        Check.due("all is as it was", Look.state(x), seen);
        Check.due("one act to undo", x.undo(), 0);
    }

    private static void bookLived() {
        Check.says("or lived as far as it is not WRONG (1): the LINE that is WRONG; NONE: none");
        CombedOut x = Check.of(QUARTER);
        Check.due("none is", Check.book(x, 1, "q catches a;day 1;q cut;"), -1);
        Check.due("lived", Check.row(x, 1), "1");
        Check.due("the first LINE", Check.book(x, 1, "stuff x a;q cut;"), 0);
        Check.due("nothing is lived", Check.row(x, 1), "1");
        Check.due("the second", Check.book(x, 1, "q cut;q cut;q catches a;"), 1);
        Check.due("the first is lived", Check.row(x, 1), "");
        Check.due("the 40th", Check.book(x, 1, "day 1;".repeat(39) + "q stroke 1;"), 39);
        Check.due("39 are lived", x.now(0), 40);
        Check.due("no LINE", Check.book(x, 1, ""), -1);
        // Later LINES see what the ones ahead did.
        CombedOut y = Check.of(QUARTER);
        Check.due("what came out can be stuffed", Check.book(y, 1, "p stroke 1;stuff x a;stuff x a;"), 2);
        Check.due("lived", y.bed(0, 1), 2);
    }

    private static void bookFault() {
        Check.says("-2 less the place of a FAULT");
        CombedOut x = Check.of(QUARTER);
        String seen = Look.state(x);
        Check.due("at 0", Check.book(x, 1, "oh cut;"), -2);
        Check.due("at 5", Check.book(x, 1, "day 1"), -7);
        Check.due("behind LINES that would be lived", Check.book(x, 1, "day 1;q cut;oh"), -2 - 12);
        Check.due("behind a LINE that would be WRONG", Check.book(x, 1, "stuff x a;day 61;"), -2 - 14);
        Check.due("all is as it was", Look.state(x), seen);
        Check.due("nothing to undo", x.undo(), -1);
    }

    private static void bookOtherLives() {
        Check.says("-1000: another lives (the tape stays)");
        CombedOut x = Check.of(QUARTER);
        Check.book(x, 0, "day 3;");
        Check.feed(x, "day 1;");
        String seen = Look.at(x);
        for (int lives : new int[] {-1, 2, 3, -1000, Integer.MIN_VALUE, Integer.MAX_VALUE}) {
            Check.due("book(" + lives + ")", x.book(lives), -1000);
        }
        Check.due("the tape stays", x.count(5), 6);
        Check.due("all is as it was", Look.at(x), seen);
        Check.due("it can be lived", x.book(1), -1);
        Check.due("DAY", x.now(0), 1);
        Check.due("the tape is empty", x.count(5), 0);
    }

    private static void why(String text, int why, int line) {
        CombedOut x = Check.of("thing a 1 2;thing b 2 0;person p 10;person q 9;bed x 2;comb 8;caught p a;caught p b;caught p b;");
        for (int lives = 0; lives <= 1; lives++) {
            Check.due("book(" + lives + ") '" + text + "'", Check.book(x, lives, text), line);
            Check.due("told(0) of '" + text + "'", x.told(0), why);
            Check.due("told(1) of '" + text + "'", x.told(1), line < 0 ? text.chars().filter(c -> c == ';').count() : line);
        }
    }

    private static void toldWhy() {
        Check.says("0 why it was WRONG (0: it was not; 1 to 4 as for a STROKE, 11 a CUT, 21 catching, 31 stuffing; "
            + "41: fewer DAYS are left), 1 LINES that are not");
        why("", 0, -1);
        why("day 1;p stroke 4;stuff x b;", 0, -1);
        why("q stroke 1;", 1, 0);
        why("p stroke 3;", 2, 0);
        why("p stroke 9;", 3, 0);
        why("day 1;p stroke 4;p stroke 7;", 4, 2);
        why("q cut;day 1;", 11, 0);
        why("q catches a;q catches a;q catches a;q catches a;q catches a;q catches a;q catches a;q catches a;q catches a;day 1;", 21, 8);
        why("stuff x a;", 31, 0);
        why("p stroke 4;stuff x b;stuff x a;", 31, 2);
        why("day 60;day 60;day 60;day 60;day 60;day 60;day 41;", 41, 6);
        why("day 60;day 60;day 60;day 60;day 60;day 60;day 40;", 0, -1);
        CombedOut x = new CombedOut();
        Check.book(x, 1, "day 60;day 60;day 60;day 60;day 60;day 60;day 40;");
        Check.due("none is left", Check.book(x, 1, "day 1;"), 0);
        Check.due("why", x.told(0), 41);
    }

    private static void toldThen() {
        Check.says("2 the DAY then, 3 things in the BAG then, in all");
        CombedOut x = Check.of(QUARTER);
        Check.book(x, 0, "p stroke 5;day 7;stuff x a;day 2;");
        Check.due("the DAY by one that is judged", x.told(2), 9);
        Check.due("the BAG by one that is judged", x.told(3), 2);
        Check.due("the DAY now", x.now(0), 0);
        Check.book(x, 1, "day 3;p stroke 1;stuff x b;day 2;");
        Check.due("the DAY as far as it was lived", x.told(2), 3);
        Check.due("the BAG as far as it was lived", x.told(3), 1);
        x.days(2);
        x.stuff(0, 0);
        Check.due("the DAY stays told", x.told(2), 3);
        Check.due("the BAG stays told", x.told(3), 1);
        Check.book(x, 0, "");
        Check.due("the DAY of an empty one", x.told(2), 5);
        Check.due("the BAG of an empty one", x.told(3), 0);
        CombedOut y = new CombedOut();
        Check.book(y, 0, "day 60;day 60;day 60;day 60;day 60;day 60;day 41;");
        Check.due("none of too many DAYS goes", y.told(2), 360);
    }

    private static void toldNone() {
        Check.says("Of the latest book() that had no FAULT (and was not -1000). NONE: another what, or ahead of any");
        CombedOut x = Check.of(QUARTER);
        for (int what = 0; what <= 3; what++) {
            Check.due("ahead of any, told(" + what + ")", x.told(what), -1);
        }
        Check.book(x, 1, "oh");
        x.book(7);
        for (int what = 0; what <= 3; what++) {
            Check.due("ahead of one without a FAULT, told(" + what + ")", x.told(what), -1);
        }
        Check.book(x, 0, "day 1;q cut;q cut;");
        int[] due = {11, 2, 1, 0};
        Check.book(x, 1, "day 9;oh");
        x.book(-1);
        for (int what = 0; what <= 3; what++) {
            Check.due("told(" + what + ")", x.told(what), due[what]);
        }
        Check.due("told(4)", x.told(4), -1);
        for (int far : FAR) {
            Check.due("told(" + far + ")", x.told(far), -1);
        }
    }

    private static void sentenceTape() {
        Check.says("The tape is the SENTENCE now: how many ONES (each not, bracket and other one)");
        CombedOut x = Check.of(QUARTER);
        String[] texts = {"bare", "not bare", "(bare)", "not(bare)", "bare and nest", "has a or like p", "not not(not(bare or sore))",
            "caught = 1 and knots < 2 or pain > 3 and number = 4", "((((((bare))))))"};
        int[] ones = {1, 2, 2, 3, 2, 2, 7, 4, 7};
        for (int i = 0; i < texts.length; i++) {
            Check.due("'" + texts[i] + "'", Check.sentence(x, texts[i]), ones[i]);
        }
        Check.sentence(x, "has a");
        Check.sentence(x, "has b");
        Check.due("the latest one", x.said(-1), 2);
    }

    private static void sentenceFaultStays() {
        Check.says("sentence(): -1 less the place of a FAULT: it stays");
        CombedOut x = Check.of(QUARTER);
        Check.due("ahead of any", Check.sentence(x, "has"), -1 - 3);
        Check.due("there is none", x.said(-1), -1);
        Check.sentence(x, "has a");
        Check.due("at 0", Check.sentence(x, "oh"), -1);
        Check.due("at its end", Check.sentence(x, "has b or"), -1 - 8);
        Check.due("behind it", Check.sentence(x, "has b)"), -1 - 5);
        Check.due("it stays: how many", x.said(-1), 1);
        Check.due("it stays: who", x.said(0), 0);
    }

    private static void saidOf() {
        Check.says("PERSONS of whom it may be said: how many (k NONE), or the k-th. NONE: there is no SENTENCE, none such");
        CombedOut x = Check.of("thing a 1 1;person p 1;person q 1;person r 1;person s 1;caught q a;caught s a;");
        Check.due("no SENTENCE: how many", x.said(-1), -1);
        Check.due("no SENTENCE: the first", x.said(0), -1);
        Check.sentence(x, "has a");
        Check.due("how many", x.said(CombedOut.NONE), 2);
        Check.due("the first", x.said(0), 1);
        Check.due("the second", x.said(1), 3);
        Check.due("the third", x.said(2), -1);
        for (int far : new int[] {-2, -3, 4, 99, Integer.MIN_VALUE, Integer.MAX_VALUE}) {
            Check.due("said(" + far + ")", x.said(far), -1);
        }
        Check.sentence(x, "nest");
        Check.due("of nobody: how many", x.said(-1), 0);
        Check.due("of nobody: the first", x.said(0), -1);
        Check.quarter(x, "person p 1;");
        Check.due("a new QUARTER has no SENTENCE", x.said(-1), -1);
    }

    private static void imagePlaces() {
        Check.says("are kept in place k (0, 1): true; false: no such one");
        CombedOut x = new CombedOut();
        Check.due("image(0)", x.image(0), true);
        Check.due("image(1)", x.image(1), true);
        Check.due("image(2)", x.image(2), false);
        for (int far : FAR) {
            Check.due("image(" + far + ")", x.image(far), false);
        }
        // The latest image of a place counts, and the other place is left alone.
        x.days(1);
        x.image(1);
        x.days(1);
        x.image(1);
        x.days(1);
        x.restore(0);
        Check.due("place 0", x.now(0), 0);
        x.restore(1);
        Check.due("place 1", x.now(0), 2);
    }

    private static void restorePlaces() {
        Check.says("false: no such one, or nothing is kept there");
        CombedOut x = Check.of(QUARTER);
        x.days(2);
        Check.due("nothing in 0", x.restore(0), false);
        Check.due("nothing in 1", x.restore(1), false);
        x.image(1);
        Check.due("nothing in 0 still", x.restore(0), false);
        Check.due("restore(2)", x.restore(2), false);
        for (int far : FAR) {
            Check.due("restore(" + far + ")", x.restore(far), false);
        }
        x.days(1);
        Check.due("false leaves what can be undone", x.undo(), 1);
        Check.due("restore(1)", x.restore(1), true);
        Check.due("and again", x.restore(1), true);
    }

    private static void restoreAll() {
        Check.says("QUARTER, all that is so and the SENTENCE: They are as kept in place k");
        CombedOut x = Check.of(QUARTER);
        Check.sentence(x, "has b");
        x.stroke(0, 5);
        x.stuff(0, 0);
        x.days(3);
        x.stroke(0, 1);
        x.cut(1);
        String seen = Look.state(x);
        x.image(0);
        Check.due("an image changes nothing", Look.state(x), seen);
        x.days(4);
        x.snag(0, 0);
        Check.sentence(x, "bare");
        x.restore(0);
        Check.due("behind acts", Look.state(x), seen);
        Check.quarter(x, "thing zz 9 9;bed k 1;comb 20;person m 5;caught m zz;daily m zz 1;");
        String other = Look.state(x);
        x.image(1);
        x.restore(0);
        Check.due("behind another QUARTER", Look.state(x), seen);
        Check.due("NAMES are as kept", Check.tag(x, 0), "p bare");
        Check.due("and told", Check.book(x, 0, "q catches b;stuff x b;"), -1);
        x.days(1);
        x.restore(1);
        Check.due("the other place", Look.state(x), other);
        Check.due("its NAMES", Check.tag(x, 0), "m zz");
        Check.due("its 'daily'", x.nests(0), 7);
        Check.due("no SENTENCE was kept there", x.said(-1), -1);
        Check.due("its comb", x.stroke(0, 20), 4);
        x.restore(0);
        Check.due("an image stays as it was kept", Look.state(x), seen);
    }

    private static void restoreStays() {
        Check.says("(the tape, and what other calls told last, stays; nothing can be undone)");
        CombedOut x = Check.of(QUARTER);
        x.image(0);
        x.round(999);
        x.beds();
        Check.fits(x, 1);
        int ask = x.ask();
        x.tag(1);
        Check.book(x, 0, "day 7;q cut;q cut;q cut;");
        Check.sentence(x, "has oh");
        x.days(1);
        Check.feed(x, "comb 5;");
        Check.due("restore(0)", x.restore(0), true);
        Check.due("rounded()", x.rounded(), 3);
        Check.due("bedded()", x.bedded(), 0);
        Check.due("ask()", x.ask(), ask);
        Check.due("byteAt(0)", x.byteAt(0), 'q');
        Check.due("told(0)", x.told(0), 11);
        Check.due("told(2)", x.told(2), 7);
        Check.due("fault()", x.fault(), 3);
        Check.due("bytes of the tape", x.count(5), 7);
        Check.due("undo()", x.undo(), -1);
        Check.due("the tape is read", x.quarter(), 1);
        Check.due("comb", x.count(4), 5);
    }

    private static void counts() {
        Check.says("0 THINGS, 1 PERSONS, 2 'daily', 3 BEDS, 4 'comb', 5 bytes of the tape. NONE for another what");
        CombedOut x = Check.of("thing a 1 1;person p 1;person q 1;daily p a 1;daily p a 1;daily q a 2;bed x 1;bed y 1;bed z 1;bed w 1;comb 17;");
        x.feed(1, 2, 3, 4, 5);
        x.end(6);
        int[] due = {1, 2, 3, 4, 17, 6};
        for (int what = 0; what <= 5; what++) {
            Check.due("count(" + what + ")", x.count(what), due[what]);
        }
        Check.due("count(6)", x.count(6), -1);
        for (int far : FAR) {
            Check.due("count(" + far + ")", x.count(far), -1);
        }
    }

    private static void asFullAsCanBe() {
        Check.says("8 THINGS, 6 PERSONS, 8 'caught' of each, 12 'daily' in all, 4 BEDS at most");
        StringBuilder text = new StringBuilder("comb 20;bed v 18;bed w 18;bed x 27;bed y 27;");
        for (int i = 0; i < 8; i++) {
            text.append("thing ").append((char) ('a' + i)).append(" 1 9;");
        }
        for (int p = 0; p < 6; p++) {
            text.append("person ").append((char) ('p' + p)).append(" 99;");
            for (int i = 0; i < (p == 0 ? 7 : 8); i++) {
                text.append("caught ").append((char) ('p' + p)).append(' ').append((char) ('a' + i)).append(';');
            }
        }
        for (int i = 0; i < 12; i++) {
            text.append("daily ").append((char) ('p' + i / 2)).append(" h ").append(i % 2 + 1).append(';');
        }
        CombedOut x = Check.of(text.toString());
        Check.due("NESTS", x.now(3), 62);
        Check.due("STILL", x.thing(7, 4), 5);
        Check.due("PERSONS who have it", x.thing(7, 3), 62);
        Check.due("days(1)", x.days(1), 1);
        Check.due("NESTS then", x.now(3), 63);
        Check.due("all alike", x.like(5), 31);
        Check.due("fits()", Check.fits(x, 6, 7), 63);
        Check.due("ask()", x.ask(), 0);
        Check.due("HARDEST", x.hardest(), 0);
        Check.due("EASE", x.ease(5), 1);
        Check.due("round(47)", x.round(47), 5);
        Check.due("rounded()", x.rounded(), 31);
        Check.due("stroke(5, 8)", x.stroke(5, 8), 0);
        Check.due("stroke(0, 20)", x.stroke(0, 20), 0);
        Check.due("the bag", x.now(1), 10);
        Check.due("beds()", x.beds(), 4);
        Check.due("bedded()", x.bedded(), 15);
        Check.due("stuff(3, 7)", x.stuff(3, 7), 0);
        Check.due("stuff(3, 7)", x.stuff(3, 7), 0);
        Check.due("STILL then", x.thing(7, 4), 6);
        Check.due("a sentence", Check.sentence(x, "has h and like t"), 2);
        Check.due("said of four", x.said(-1), 4);
        Check.due("odds()", x.odds(5, 30, 3) >= 0, true);
        Check.due("drawn(60, 3)", x.drawn(60, 3), 60);
        Check.due("nests()", x.nests(5) >= 0, true);
        Check.due("undo()", x.undo(), 5);
        Check.due("a BOOK", Check.book(x, 1, "u catches h;u cut;stuff y g;day 2;"), -1);
        Check.due("caught on two DAYS", Check.row(x, 5), "777");
        Check.due("TAG", Check.tag(x, 5), "u h3");
    }

    /** An object of which everything that can be told tells something, with two acts that can be undone. */
    private static CombedOut full() {
        CombedOut x = Check.of(QUARTER);
        Check.sentence(x, "has b");
        x.round(999);
        x.beds();
        Check.fits(x, 1);
        x.tag(0);
        x.stroke(0, 1);
        Check.book(x, 1, "stuff x a;day 1;q stroke 1;");
        Check.book(x, 0, "oh");
        Check.feed(x, "day 60;");
        return x;
    }

    private static void refused(String call, long due, ToLongFunction<CombedOut> made) {
        CombedOut x = full();
        String seen = Look.at(x);
        Check.due(call, made.applyAsLong(x), due);
        Check.due("behind " + call, Look.at(x), seen);
        Check.due("fault() behind " + call, x.fault(), 3);
        Check.due("undo() behind " + call, x.undo(), 1);
        Check.due("undo() again behind " + call, x.undo(), 0);
        Check.due("the first row behind " + call, Check.row(x, 0), "0110");
    }

    private static void refusedCallsChangeNothing() {
        Check.says("a refused call changes nothing");
        refused("stroke(2, 1)", -1, x -> x.stroke(2, 1));
        refused("stroke(0, 0)", -1, x -> x.stroke(0, 0));
        refused("stroke(0, 21)", -1, x -> x.stroke(0, 21));
        refused("stroke(0, 3)", 2, x -> x.stroke(0, 3));
        refused("stroke(0, 9)", 3, x -> x.stroke(0, 9));
        refused("cut(2)", -1, x -> x.cut(2));
        refused("snag(0, 2)", -1, x -> x.snag(0, 2));
        refused("snag(2, 0)", -1, x -> x.snag(2, 0));
        refused("stuff(0, 0)", 1, x -> x.stuff(0, 0));
        refused("stuff(2, 0)", -1, x -> x.stuff(2, 0));
        refused("stuff(0, 2)", -1, x -> x.stuff(0, 2));
        refused("days(0)", -1, x -> x.days(0));
        refused("days(61)", -1, x -> x.days(61));
        refused("drawn(0, 5)", -1, x -> x.drawn(0, 5));
        refused("drawn(61, 5)", -1, x -> x.drawn(61, 5));
        refused("odds(2, 5, 5)", -1, x -> x.odds(2, 5, 5));
        refused("odds(0, 31, 5)", -1, x -> x.odds(0, 31, 5));
        refused("round(1000)", -1, x -> x.round(1000));
        refused("round(-1)", -1, x -> x.round(-1));
        refused("tag(2)", -1, x -> x.tag(2));
        refused("end(8)", 0, x -> x.end(8) ? 1 : 0);
        refused("end(-1)", 0, x -> x.end(-1) ? 1 : 0);
        refused("book(2)", -1000, x -> x.book(2));
        refused("image(2)", 0, x -> x.image(2) ? 1 : 0);
        refused("restore(0)", 0, x -> x.restore(0) ? 1 : 0);
        refused("restore(-1)", 0, x -> x.restore(-1) ? 1 : 0);
        refused("person(2, 0)", Check.THROWS, x -> Check.person(x, 2, 0));
        refused("mean(0, 2)", Check.THROWS, x -> Check.mean(x, 0, 2));
        CombedOut y = Check.of("thing a 1 1;person p 9;" + "caught p a;".repeat(8));
        String seen = Look.at(y);
        Check.due("snag() of a NEST", y.snag(0, 0), 1);
        Check.due("behind it", Look.at(y), seen);
        y.cut(0);
        seen = Look.at(y);
        Check.due("cut() of a bare one", y.cut(0), 1);
        Check.due("stroke() of a bare one", y.stroke(0, 1), 1);
        Check.due("behind them", Look.at(y), seen);
        Check.due("the cut alone can be undone", y.undo(), 0);
    }

    private static void askingChangesNothing() {
        Check.says("a call that only tells changes nothing");
        refused("ease(0)", 1, x -> x.ease(0));
        refused("nests(1)", 13, x -> x.nests(1));
        refused("like(0)", 0, x -> x.like(0));
        refused("hardest()", 0, x -> x.hardest());
        refused("mean(0, 0)", 5, x -> Check.mean(x, 0, 0));
        refused("odds(0, 30, 5)", full().odds(0, 30, 5), x -> x.odds(0, 30, 5));
        refused("image(0)", 1, x -> x.image(0) ? 1 : 0);
    }
}
