/** "Terms" 2, DRAWN, and promises 11 to 16, 30 and 31: a test for each sentence that names an edge. */
public final class ActEdgesTest {
    public static void main(String[] args) {
        knots();
        aKnotHolds();
        aNest();
        noStrokeBare();
        noStrokeTooWeak();
        noStrokeAboveTheComb();
        noStrokeTooMuchPain();
        theLeastReason();
        knotByKnot();
        painOfAStroke();
        intoTheBag();
        theBagIsFull();
        noCut();
        aCut();
        noCatching();
        catching();
        noStuffing();
        stuffing();
        dayNumbers();
        noPainIsLeft();
        dailyAsTold();
        dividedByEvery();
        ifHeCan();
        sleeping();
        strokeCall();
        cutCall();
        snagCall();
        stuffCall();
        daysCall();
        undoLatest();
        undoWhatIsNoAct();
        undoEight();
        undoNone();
        drawFormula();
        drawnThings();
        drawnIfItCanBe();
        drawnCall();
        drawnOverTheEnd();
        oddsCall();
        oddsSeeds();
        oddsChangeNothing();
        Check.finish();
    }

    private static final String TWO = "thing a 1 1;thing b 2 1;person p 99;person q 99;comb 20;";

    private static String caught(String row) {
        StringBuilder text = new StringBuilder();
        for (char t : row.toCharArray()) {
            text.append("caught p ").append(t).append(';');
        }
        return text.toString();
    }

    private static CombedOut hair(String row) {
        return Check.of(TWO + caught(row));
    }

    private static void knots() {
        Check.says("Alike ones next to one another are one KNOT");
        String[] rows = {"", "a", "aa", "ab", "aba", "aabb", "abab", "abba", "aaaaaaaa", "abababab", "aaaaaaab"};
        int[] due = {0, 1, 1, 2, 3, 2, 4, 3, 1, 8, 2};
        for (int i = 0; i < rows.length; i++) {
            Check.due("KNOTS of " + rows[i], Check.person(hair(rows[i]), 0, 3), due[i]);
        }
    }

    private static void aKnotHolds() {
        Check.says("a KNOT holds as much as all its things together");
        String[] rows = {"", "a", "b", "bb", "abb", "bab", "bba", "bbbbbbbb"};
        int[] outside = {0, 1, 2, 4, 4, 2, 1, 16};
        for (int i = 0; i < rows.length; i++) {
            Check.due("outside of " + rows[i], Check.person(hair(rows[i]), 0, 4), outside[i]);
        }
        CombedOut x = Check.of("thing a 9 1;person p 99;" + "caught p a;".repeat(8));
        Check.due("as much as can be", Check.person(x, 0, 4), 72);
        Check.due("all as much", Check.person(x, 0, 5), 72);
    }

    private static void aNest() {
        Check.says("Whose hair has 8 things is a NEST");
        Check.due("7", Check.person(hair("aaaaaaa"), 0, 6), 0);
        Check.due("8", Check.person(hair("aaaaaaaa"), 0, 6), 1);
        Check.due("now(3) of 7", hair("abababa").now(3), 0);
        Check.due("now(3) of 8", hair("abababab").now(3), 1);
    }

    private static void noStrokeBare() {
        Check.says("why not: 1 nothing is in his hair");
        CombedOut x = hair("a");
        Check.due("q is bare", x.stroke(1, 1), 1);
        Check.due("p is not", x.stroke(0, 1), 0);
        Check.due("p is bare then", x.stroke(0, 1), 1);
    }

    private static void noStrokeTooWeak() {
        Check.says("why not: 2 the outside KNOT holds more than n");
        CombedOut x = hair("abbb");
        Check.due("5 of 6", x.stroke(0, 5), 2);
        Check.due("1 of 6", x.stroke(0, 1), 2);
        Check.due("row", Check.row(x, 0), "0111");
        Check.due("6 of 6", x.stroke(0, 6), 0);
        Check.due("row then", Check.row(x, 0), "0");
        CombedOut y = Check.of("thing a 3 1;person p 99;comb 20;" + "caught p a;".repeat(7));
        Check.due("21 by 20", y.stroke(0, 20), 2);
    }

    private static void noStrokeAboveTheComb() {
        Check.says("why not: 3 n is more than 'comb' tells");
        CombedOut x = Check.of("thing a 1 1;person p 99;comb 5;caught p a;");
        Check.due("6 by 5", x.stroke(0, 6), 3);
        Check.due("20 by 5", x.stroke(0, 20), 3);
        Check.due("5 by 5", x.stroke(0, 5), 0);
        CombedOut y = Check.of("thing a 1 1;person p 99;caught p a;");
        Check.due("10 without 'comb'", y.stroke(0, 10), 3);
        Check.due("9 without 'comb'", y.stroke(0, 9), 0);
    }

    private static void noStrokeTooMuchPain() {
        Check.says("why not: 4 his PAIN would be above what he BEARS");
        CombedOut x = Check.of("thing a 1 1;thing b 1 1;person p 7;comb 20;caught p a;caught p b;caught p a;");
        Check.due("8 of 7", x.stroke(0, 8), 4);
        Check.due("1 of 7", x.stroke(0, 1), 0);
        Check.due("7 and 1", x.stroke(0, 7), 4);
        Check.due("PAIN stays", Check.person(x, 0, 1), 1);
        Check.due("1 more", x.stroke(0, 1), 0);
        Check.due("5 more, just 7", x.stroke(0, 5), 0);
        Check.due("PAIN", Check.person(x, 0, 1), 7);
        x.snag(0, 0);
        Check.due("1 more is too much", x.stroke(0, 1), 4);
    }

    private static void theLeastReason() {
        Check.says("why not, the least");
        CombedOut x = Check.of("thing a 9 1;person p 3;person q 3;comb 5;caught q a;caught q a;");
        Check.due("1 of 1, 3, 4", x.stroke(0, 20), 1);
        Check.due("1 of 1, 4", x.stroke(0, 4), 1);
        Check.due("2 of 2, 3, 4", x.stroke(1, 17), 2);
        Check.due("2 of 2, 4", x.stroke(1, 4), 2);
        Check.due("3 of 3, 4", x.stroke(1, 18), 3);
    }

    private static void knotByKnot() {
        Check.says("KNOT by KNOT from the outside on comes out, as long as n is not less than all that have come out "
            + "and the next one hold together");
        String[] rows = {"abba", "abba", "abba", "abba", "abba", "abba", "bab", "bab", "bab", "bbaa", "bbaa", "aab"};
        int[] force = {1, 2, 4, 5, 6, 20, 2, 3, 4, 2, 5, 3};
        String[] left = {"011", "011", "011", "0", "", "", "10", "1", "1", "11", "11", "00"};
        for (int i = 0; i < rows.length; i++) {
            CombedOut x = hair(rows[i]);
            Check.due("stroke of " + force[i] + " at " + rows[i], x.stroke(0, force[i]), 0);
            Check.due(rows[i] + " by " + force[i], Check.row(x, 0), left[i]);
        }
        CombedOut w = hair("abababab");
        w.stroke(0, 12);
        Check.due("eight KNOTS of 12 by 12", Check.row(w, 0), "");
        w.undo();
        w.stroke(0, 11);
        Check.due("eight KNOTS of 12 by 11", Check.row(w, 0), "0");
        // One that holds too much keeps what lies below, though that holds less.
        CombedOut y = Check.of("thing a 1 1;thing c 9 1;person p 99;comb 20;caught p a;caught p c;caught p a;");
        y.stroke(0, 9);
        Check.due("c keeps the a below", Check.row(y, 0), "01");
    }

    private static void painOfAStroke() {
        Check.says("he has n PAIN more");
        CombedOut x = hair("aba");
        x.stroke(0, 2);
        Check.due("2, though 1 would do", Check.person(x, 0, 1), 2);
        x.stroke(0, 20);
        Check.due("20 more", Check.person(x, 0, 1), 22);
        Check.due("nobody else has any", Check.person(x, 1, 1), 0);
        x.cut(1);
        x.stroke(1, 1);
        Check.due("one that is not done gives none", Check.person(x, 1, 1), 0);
    }

    private static void intoTheBag() {
        Check.says("Each thing that comes out is in the BAG");
        CombedOut x = hair("abba");
        x.stroke(0, 5);
        Check.due("in all", x.now(1), 3);
        Check.due("a", x.thing(0, 2), 1);
        Check.due("b", x.thing(1, 2), 2);
        Check.due("none is lost", x.now(6), 0);
        x.stroke(0, 1);
        Check.due("a then", x.thing(0, 2), 2);
    }

    private static CombedOut twoHairs(String p, String q) {
        return Check.of(TWO + caught(p) + caught(q).replace("caught p", "caught q"));
    }

    private static void theBagIsFull() {
        Check.says("the BAG, which has 10 at most (others are lost; of a KNOT as many as there is room for)");
        CombedOut x = twoHairs("aaaaaaaa", "bb");
        x.stroke(0, 8);
        x.stroke(1, 4);
        Check.due("just 10", x.now(1), 10);
        Check.due("nothing is lost of 10", x.now(6), 0);
        CombedOut y = twoHairs("aaaaaaaa", "bbb");
        y.stroke(0, 8);
        Check.due("of a knot of 3 two go in", y.stroke(1, 6), 0);
        Check.due("10", y.now(1), 10);
        Check.due("two b", y.thing(1, 2), 2);
        Check.due("one is lost", y.now(6), 1);
        Check.due("q is bare", Check.row(y, 1), "");
        Check.due("STILL of b", y.thing(1, 4), 2);
        y.snag(1, 0);
        Check.due("a stroke with a full bag", y.stroke(1, 1), 0);
        Check.due("all of it is lost", y.now(6), 2);
        Check.due("10 still", y.now(1), 10);
        Check.due("a's", y.thing(0, 2), 8);
        // From the outside on: what comes out first goes in first.
        CombedOut z = twoHairs("aaaaaaaa", "aabaab");
        z.stroke(0, 8);
        z.stroke(1, 20);
        Check.due("b and one of two a", z.thing(1, 2), 1);
        Check.due("nine a", z.thing(0, 2), 9);
        Check.due("lost of aabaab", z.now(6), 4);
        // A THING that is stuffed makes room.
        CombedOut w = Check.of(TWO + "bed x 9;" + "caught p a;".repeat(8) + "caught q b;".repeat(3));
        w.stroke(0, 8);
        w.stuff(0, 0);
        w.stroke(1, 6);
        Check.due("room for all", w.now(6), 0);
        Check.due("full again", w.now(1), 10);
    }

    private static void noCut() {
        Check.says("To CUT: 1 nothing is in his hair");
        CombedOut x = hair("ab");
        Check.due("q", x.cut(1), 1);
        Check.due("p", x.cut(0), 0);
        Check.due("p again", x.cut(0), 0);
        Check.due("p is bare", x.cut(0), 1);
        Check.due("CUTS that were done", x.now(5), 2);
    }

    private static void aCut() {
        Check.says("the outside KNOT is away (lost)");
        CombedOut x = hair("abbaaa");
        x.cut(0);
        Check.due("row", Check.row(x, 0), "011");
        Check.due("lost", x.now(6), 3);
        Check.due("the bag", x.now(1), 0);
        Check.due("PAIN", Check.person(x, 0, 1), 0);
        x.cut(0);
        Check.due("row then", Check.row(x, 0), "0");
        Check.due("lost then", x.now(6), 5);
        CombedOut y = hair("aaaaaaaa");
        y.cut(0);
        Check.due("a whole NEST of one KNOT", Check.row(y, 0), "");
        Check.due("lost of it", y.now(6), 8);
    }

    private static void noCatching() {
        Check.says("To CATCH a THING: 1 it is a NEST");
        CombedOut x = hair("aaaaaaa");
        Check.due("the eighth", x.snag(0, 1), 0);
        Check.due("the ninth", x.snag(0, 1), 1);
        Check.due("row", Check.row(x, 0), "00000001");
        Check.due("it is not lost", x.now(6), 0);
        Check.due("STILL", x.thing(1, 4), 1);
        x.cut(0);
        Check.due("behind a cut", x.snag(0, 0), 0);
    }

    private static void catching() {
        Check.says("it lies outside");
        CombedOut x = hair("ab");
        x.snag(0, 0);
        Check.due("row", Check.row(x, 0), "010");
        x.snag(0, 0);
        Check.due("one KNOT with its like", Check.person(x, 0, 3), 3);
        x.snag(1, 1);
        Check.due("into bare hair", Check.row(x, 1), "1");
    }

    private static void noStuffing() {
        Check.says("To STUFF a BED with a THING: 1 none such is in the BAG");
        CombedOut x = Check.of(TWO + "bed x 9;" + caught("abb"));
        Check.due("an empty bag", x.stuff(0, 0), 1);
        x.stroke(0, 4);
        Check.due("another THING", x.stuff(0, 0), 1);
        Check.due("b", x.stuff(0, 1), 0);
        Check.due("b again", x.stuff(0, 1), 0);
        Check.due("no more b", x.stuff(0, 1), 1);
        Check.due("things in it", x.bed(0, 3), 2);
    }

    private static void stuffing() {
        Check.says("one goes from the BAG into it: its SPRING is so much more");
        CombedOut x = Check.of("thing a 1 9;thing b 1 0;person p 99;bed x 9;bed y 99;comb 20;caught p a;caught p a;caught p b;");
        x.stroke(0, 20);
        x.stuff(1, 0);
        Check.due("SPRING", x.bed(1, 1), 9);
        Check.due("the other BED", x.bed(0, 1), 0);
        Check.due("a in the bag", x.thing(0, 2), 1);
        Check.due("in all", x.now(1), 2);
        x.stuff(1, 1);
        Check.due("SPRING of 0", x.bed(1, 1), 9);
        Check.due("things in it", x.bed(1, 3), 2);
        x.stuff(1, 0);
        Check.due("SPRING then", x.bed(1, 1), 18);
        Check.due("the bag is empty", x.now(1), 0);
        Check.due("STILL", x.thing(0, 4), 2);
    }

    private static void dayNumbers() {
        Check.says("A DAY (0 to 399; 400: all are over)");
        CombedOut x = new CombedOut();
        Check.due("the first", x.now(0), 0);
        for (int i = 0; i < 6; i++) {
            x.days(60);
        }
        x.days(39);
        Check.due("the last", x.now(0), 399);
        Check.due("it goes", x.days(1), 1);
        Check.due("all are over", x.now(0), 400);
        Check.due("none goes", x.days(1), 0);
        Check.due("none goes", x.days(60), 0);
        Check.due("all are over still", x.now(0), 400);
        // Acts are still done on it.
        CombedOut y = Check.of("thing a 1 1;person p 9;bed x 1;");
        Check.book(y, 1, "day 60;day 60;day 60;day 60;day 60;day 60;day 40;");
        Check.due("catching", y.snag(0, 0), 0);
        Check.due("a stroke", y.stroke(0, 1), 0);
        Check.due("PAIN", Check.person(y, 0, 1), 1);
        y.days(1);
        Check.due("PAIN stays, for none goes", Check.person(y, 0, 1), 1);
        Check.due("stuffing", y.stuff(0, 0), 0);
    }

    private static void noPainIsLeft() {
        Check.says("goes: no PAIN is left");
        CombedOut x = twoHairs("ab", "a");
        x.stroke(0, 2);
        x.stroke(1, 20);
        x.days(1);
        Check.due("p", Check.person(x, 0, 1), 0);
        Check.due("q", Check.person(x, 1, 1), 0);
    }

    private static void dailyAsTold() {
        Check.says("'daily' by 'daily', as told");
        CombedOut x = Check.of("thing a 1 1;thing b 1 1;thing c 1 1;person p 9;person q 9;daily p c 1;daily q b 1;daily p a 1;"
            + "daily p c 1;daily p b 2;");
        x.days(1);
        Check.due("p", Check.row(x, 0), "202");
        Check.due("q", Check.row(x, 1), "1");
        x.days(1);
        Check.due("p then", Check.row(x, 0), "2022021");
    }

    private static void dividedByEvery() {
        Check.says("if the number of the next DAY is divided by EVERY");
        for (int every = 1; every <= 9; every++) {
            CombedOut x = Check.of("thing a 1 1;person p 9;daily p a " + every + ";");
            for (int day = 1; day <= 19 && day / every <= 8; day++) {
                x.days(1);
                Check.due("every " + every + ", day " + day, Check.person(x, 0, 2), day / every);
            }
        }
        CombedOut y = Check.of("thing a 1 1;person p 9;daily p a 8;daily p a 7;");
        Check.book(y, 1, "day 60;day 60;day 60;day 60;day 60;day 60;p cut;day 38;");
        y.cut(0);
        y.days(1);
        Check.due("399 by 7", Check.person(y, 0, 2), 1);
        y.days(1);
        Check.due("400 by 8", Check.person(y, 0, 2), 2);
    }

    private static void ifHeCan() {
        Check.says("if he can (else nothing comes of it; it is not lost)");
        CombedOut x = Check.of("thing a 1 1;thing b 1 1;person p 9;person q 9;daily p a 1;daily q a 1;daily p b 1;"
            + "caught p b;".repeat(7));
        x.days(1);
        Check.due("the eighth", Check.row(x, 0), "11111110");
        x.days(3);
        Check.due("it stays", Check.row(x, 0), "11111110");
        Check.due("nothing is lost", x.now(6), 0);
        Check.due("others go on", Check.row(x, 1), "0000");
        Check.due("STILL", x.thing(0, 4), 5);
    }

    private static void sleeping() {
        Check.says("Who lies on a BED sleeps, if its SPRING is NEEDS or more");
        CombedOut x = Check.of("thing a 1 1;person p 99;bed x 3;bed y 1;" + "caught p a;".repeat(5));
        x.stroke(0, 5);
        x.stuff(0, 0);
        x.stuff(0, 0);
        Check.due("2 of 3", x.bed(0, 2), 0);
        Check.due("nobody", x.now(2), 0);
        x.stuff(0, 0);
        Check.due("3 of 3", x.bed(0, 2), 1);
        Check.due("x alone", x.now(2), 1);
        x.stuff(0, 0);
        Check.due("4 of 3", x.bed(0, 2), 1);
        x.stuff(1, 0);
        Check.due("both", x.now(2), 3);
    }

    private static final int[] FAR = {Integer.MIN_VALUE, Integer.MIN_VALUE + 1, -2, -1, 99, 1000, Integer.MAX_VALUE};

    private static void strokeCall() {
        Check.says("A STROKE of n (1 to 20) at a PERSON: 0, or why not; NONE: no such ones");
        CombedOut x = Check.of(TWO + caught("a"));
        Check.due("stroke(0, 0)", x.stroke(0, 0), -1);
        Check.due("stroke(0, 21)", x.stroke(0, 21), -1);
        Check.due("stroke(2, 1)", x.stroke(2, 1), -1);
        Check.due("stroke(2, 0)", x.stroke(2, 0), -1);
        for (int far : FAR) {
            Check.due("stroke(0, " + far + ")", x.stroke(0, far), -1);
            Check.due("stroke(" + far + ", 1)", x.stroke(far, 1), -1);
        }
        Check.due("a bare one and no force", x.stroke(1, 0), -1);
        Check.due("stroke(0, 20)", x.stroke(0, 20), 0);
        Check.due("STROKES", x.now(4), 1);
        CombedOut y = Check.of("thing a 1 1;person p 1;person q 1;person r 1;person s 1;person t 1;person u 1;caught u a;");
        Check.due("stroke(5, 1)", y.stroke(5, 1), 0);
        Check.due("stroke(6, 1)", y.stroke(6, 1), -1);
    }

    private static void cutCall() {
        Check.says("He is CUT: 0, or why not; NONE: no such one");
        CombedOut x = Check.of(TWO + "caught q a;");
        Check.due("cut(2)", x.cut(2), -1);
        for (int far : FAR) {
            Check.due("cut(" + far + ")", x.cut(far), -1);
        }
        Check.due("cut(0)", x.cut(0), 1);
        Check.due("cut(1)", x.cut(1), 0);
    }

    private static void snagCall() {
        Check.says("He CATCHES a THING: 0, or why not; NONE: no such ones");
        CombedOut x = Check.of(TWO + "caught p a;".repeat(8));
        Check.due("snag(1, 2)", x.snag(1, 2), -1);
        Check.due("snag(2, 1)", x.snag(2, 1), -1);
        Check.due("a NEST and no THING", x.snag(0, 2), -1);
        for (int far : FAR) {
            Check.due("snag(1, " + far + ")", x.snag(1, far), -1);
            Check.due("snag(" + far + ", 1)", x.snag(far, 1), -1);
        }
        Check.due("snag(0, 1)", x.snag(0, 1), 1);
        Check.due("snag(1, 1)", x.snag(1, 1), 0);
    }

    private static void stuffCall() {
        Check.says("A BED is STUFFED with a THING: 0, or why not; NONE: no such ones");
        CombedOut x = Check.of(TWO + "bed x 1;bed y 1;" + caught("b"));
        x.stroke(0, 2);
        Check.due("stuff(2, 1)", x.stuff(2, 1), -1);
        Check.due("stuff(0, 2)", x.stuff(0, 2), -1);
        for (int far : FAR) {
            Check.due("stuff(1, " + far + ")", x.stuff(1, far), -1);
            Check.due("stuff(" + far + ", 1)", x.stuff(far, 1), -1);
        }
        Check.due("stuff(1, 0)", x.stuff(1, 0), 1);
        Check.due("stuff(1, 1)", x.stuff(1, 1), 0);
    }

    private static void daysCall() {
        Check.says("n (1 to 60) DAYS go by: how many did; NONE: not as told");
        CombedOut x = new CombedOut();
        Check.due("days(0)", x.days(0), -1);
        Check.due("days(61)", x.days(61), -1);
        for (int far : FAR) {
            Check.due("days(" + far + ")", x.days(far), -1);
        }
        Check.due("none went", x.now(0), 0);
        Check.due("days(1)", x.days(1), 1);
        Check.due("days(60)", x.days(60), 60);
        Check.due("61 went", x.now(0), 61);
        for (int i = 0; i < 5; i++) {
            x.days(60);
        }
        Check.due("39 are left", x.days(60), 39);
        Check.due("none is left", x.days(60), 0);
        Check.due("and too many are not as told", x.days(61), -1);
    }

    private static void undoLatest() {
        Check.says("The latest of stroke(), cut(), snag(), stuff() that was done, days() above 0, drawn() above 0, "
            + "a BOOK of which some LINE was lived is undone: how many more can be");
        CombedOut x = Check.of(TWO + "bed x 9;daily q a 1;" + caught("abba"));
        String[] seen = new String[8];
        for (int i = 0; i <= 7; i++) {
            if (i > 0) {
                act(x, i);
            }
            seen[i] = brief(x);
        }
        for (int i = 7; i > 0; i--) {
            Check.due("ahead of undoing " + i, brief(x), seen[i]);
            Check.due("undo() of " + i, x.undo(), i - 1);
            Check.due("behind undoing " + i, brief(x), seen[i - 1]);
        }
    }

    private static void act(CombedOut x, int i) {
        switch (i) {
            case 1: Check.due("stroke", x.stroke(0, 1), 0); break;
            case 2: Check.due("cut", x.cut(0), 0); break;
            case 3: Check.due("snag", x.snag(1, 1), 0); break;
            case 4: Check.due("stuff", x.stuff(0, 0), 0); break;
            case 5: Check.due("days", x.days(3), 3); break;
            case 6: Check.due("drawn", x.drawn(2, 4), 2); break;
            default: Check.due("book", Check.book(x, 1, "p catches b;p stroke 20;day 1;q catches b;p cut;p cut;"), 4);
        }
    }

    private static String brief(CombedOut x) {
        StringBuilder text = new StringBuilder(Check.row(x, 0)).append(' ').append(Check.row(x, 1));
        for (int what = 0; what <= 6; what++) {
            text.append(' ').append(x.now(what));
        }
        text.append(" pain ").append(Check.person(x, 0, 1)).append(' ').append(Check.person(x, 1, 1));
        text.append(" bag ").append(x.thing(0, 2)).append(' ').append(x.thing(1, 2));
        text.append(" bed ").append(x.bed(0, 1)).append(' ').append(x.bed(0, 3));
        return text.append(" still ").append(x.thing(0, 4)).append(' ').append(x.thing(1, 4)).toString();
    }

    private static void undoWhatIsNoAct() {
        Check.says("that was done / above 0 / of which some LINE was lived");
        CombedOut x = Check.of(TWO + "bed x 9;" + caught("bb"));
        x.stroke(1, 1);
        x.stroke(0, 3);
        x.stroke(0, 0);
        x.cut(1);
        x.cut(2);
        x.snag(0, 2);
        x.stuff(0, 0);
        x.stuff(1, 0);
        x.days(0);
        x.days(61);
        x.drawn(0, 1);
        x.drawn(61, 1);
        x.odds(0, 5, 1);
        Check.book(x, 0, "day 5;");
        Check.book(x, 1, "p stroke 3;day 5;");
        Check.book(x, 1, "");
        Check.book(x, 1, "day 5;oh");
        Check.sentence(x, "bare");
        x.image(0);
        x.round(999);
        x.beds();
        x.tag(0);
        Check.fits(x, 1);
        Check.due("none of these", x.undo(), -1);
        Check.book(x, 1, "day 60;day 60;day 60;day 60;day 60;day 60;day 40;");
        x.days(1);
        x.drawn(1, 1);
        Check.due("DAYS of which none went", x.undo(), 0);
        Check.due("the BOOK is undone", x.now(0), 0);
        Check.due("a BOOK of which one LINE was lived", Check.book(x, 1, "day 1;p stroke 3;"), 1);
        Check.due("undo()", x.undo(), 0);
        x.snag(0, 0);
        x.days(1);
        x.undo();
        x.cut(0);
        Check.due("an act behind an undone one", x.undo(), 1);
        Check.due("row", Check.row(x, 0), "110");
        Check.due("and the one ahead", x.undo(), 0);
        Check.due("row", Check.row(x, 0), "11");
    }

    private static void undoEight() {
        Check.says("8 at most are kept");
        CombedOut x = hair("");
        for (int i = 0; i < 8; i++) {
            x.days(1);
        }
        Check.due("of eight", x.undo(), 7);
        CombedOut y = hair("");
        for (int i = 0; i < 21; i++) {
            y.days(1);
        }
        for (int i = 7; i >= 0; i--) {
            Check.due("undo()", y.undo(), i);
            Check.due("DAY", y.now(0), 13 + i);
        }
        Check.due("the ninth", y.undo(), -1);
        Check.due("DAY 13 stays", y.now(0), 13);
        for (int i = 1; i <= 3; i++) {
            y.days(2);
        }
        Check.due("three anew", y.undo(), 2);
        Check.due("DAY", y.now(0), 17);
    }

    private static void undoNone() {
        Check.says("NONE: none is");
        CombedOut x = new CombedOut();
        Check.due("a new object", x.undo(), -1);
        x.days(1);
        Check.due("the only one", x.undo(), 0);
        Check.due("none is left", x.undo(), -1);
        Check.due("none still", x.undo(), -1);
        x.days(5);
        Check.quarter(x, TWO);
        Check.due("of the QUARTER ahead", x.undo(), -1);
        x.days(5);
        x.image(0);
        x.restore(0);
        Check.due("behind restore()", x.undo(), -1);
        Check.due("DAY", x.now(0), 5);
        x.days(2);
        Check.quarter(x, "oh");
        Check.due("a QUARTER with a FAULT leaves it", x.undo(), 0);
    }

    private static int draw(int[] x, int n) {
        x[0] = x[0] * 1103515245 + 12345;
        return (x[0] >>> 8) % n;
    }

    private static void drawFormula() {
        Check.says("for each draw of n x becomes x * 1103515245 + 12345 (an int, wrapping), the draw is (x >>> 8) % n");
        for (int seed : new int[] {0, 1, -1, 2, 12345, -12345, Integer.MAX_VALUE, Integer.MIN_VALUE, 0x00ffffff, 0x7fffff00}) {
            for (int more = 0; more < 40; more++) {
                int from = seed + more;
                CombedOut x = Check.of("thing a 1 1;thing b 1 1;thing c 1 1;person p 20;comb 20;caught p a;caught p b;");
                x.drawn(1, from);
                int[] y = {from};
                int act = draw(y, 6);
                String row = "01";
                int cuts = 0;
                int strokes = 0;
                if (act <= 1) {
                    row += draw(y, 3);
                } else if (act == 2) {
                    row = draw(y, 20) + 1 > 1 ? "" : "0";
                    strokes = 1;
                } else if (act == 3) {
                    row = "0";
                    cuts = 1;
                }
                Check.due("row by " + from, Check.row(x, 0), row);
                Check.due("CUTS by " + from, x.now(5), cuts);
                Check.due("STROKES by " + from, x.now(4), strokes);
                Check.due("PAIN is gone with the DAY", Check.person(x, 0, 1), 0);
            }
        }
    }

    /** A seed by which the first draws of PERSONS without THINGS are these. */
    private static int seedFor(int... acts) {
        for (int seed = 0; seed < 100000; seed++) {
            int[] x = {seed};
            boolean fits = true;
            for (int act : acts) {
                fits = fits && draw(x, 6) == act;
            }
            if (fits) {
                return seed;
            }
        }
        throw new IllegalStateException("no such seed");
    }

    private static void drawnThings() {
        Check.says("a draw of all THINGS (none: no draw)");
        // Without THINGS p's 0 is followed by q's draw at once: by it r, who has no more draws, is CUT or not.
        for (int first = 0; first <= 1; first++) {
            int seed = seedFor(first, 3, 5);
            CombedOut x = Check.of("person p 9;person q 9;person r 9;");
            x.drawn(1, seed);
            Check.due("nobody catches anything", Check.row(x, 0) + Check.row(x, 1) + Check.row(x, 2), "");
            Check.due("DAY", x.now(0), 1);
        }
        // With one THING there is a draw of 1, and x goes on by it.
        for (int seed = 0; seed < 200; seed++) {
            int[] y = {seed};
            CombedOut x = Check.of("thing a 1 1;person p 9;person q 9;caught q a;");
            x.drawn(1, seed);
            if (draw(y, 6) <= 1) {
                Check.due("p by " + seed, Check.row(x, 0), "0");
                Check.due("a draw of 1", draw(y, 1), 0);
                Check.due("q's act by " + seed, x.now(5), draw(y, 6) == 3 ? 1 : 0);
            }
        }
    }

    private static void drawnIfItCanBe() {
        Check.says("he CATCHES that; a STROKE of that; he is CUT (each, if it can be); then the DAY");
        String[] texts = {
            // A NEST catches nothing, but the draw of the THING is made.
            "thing a 1 1;thing b 1 1;person p 9;person q 9;caught q b;" + "caught p a;".repeat(8),
            // A comb of 1 and hair that holds 1 or 2: most strokes are refused.
            "thing a 1 1;thing b 2 1;person p 9;person q 9;caught q b;caught p a;comb 1;",
            // He bears 1.
            "thing a 1 1;thing b 1 1;person p 1;person q 99;caught q b;caught p a;comb 20;",
            // All bare: no CUT and no STROKE is done.
            "thing a 1 1;thing b 1 1;person p 9;person q 9;"};
        for (String text : texts) {
            for (int seed = 0; seed < 60; seed++) {
                CombedOut x = Check.of(text);
                CombedOut y = Check.of(text);
                x.drawn(1, seed);
                int[] s = {seed};
                for (int p = 0; p < 2; p++) {
                    int act = draw(s, 6);
                    if (act <= 1) {
                        y.snag(p, draw(s, 2));
                    } else if (act == 2) {
                        y.stroke(p, draw(s, 20) + 1);
                    } else if (act == 3) {
                        y.cut(p);
                    }
                }
                y.days(1);
                DrawnTest.same("seed " + seed, x, y);
            }
        }
    }

    private static void drawnCall() {
        Check.says("n (1 to 60) DAYS DRAWN by a seed: how many went by; NONE: not as told");
        CombedOut x = hair("ab");
        Check.due("drawn(0, 1)", x.drawn(0, 1), -1);
        Check.due("drawn(61, 1)", x.drawn(61, 1), -1);
        for (int far : FAR) {
            Check.due("drawn(" + far + ", 1)", x.drawn(far, 1), -1);
        }
        Check.due("none went", x.now(0), 0);
        Check.due("row", Check.row(x, 0), "01");
        Check.due("drawn(1, min)", x.drawn(1, Integer.MIN_VALUE), 1);
        Check.due("drawn(60, max)", x.drawn(60, Integer.MAX_VALUE), 60);
        Check.due("61 went", x.now(0), 61);
        CombedOut y = new CombedOut();
        Check.due("without PERSONS", y.drawn(7, 7), 7);
        Check.due("DAY", y.now(0), 7);
    }

    private static void drawnOverTheEnd() {
        Check.says("how many went by (DAY 400: all are over)");
        String text = "thing a 1 1;person p 9;person q 9;daily q a 3;";
        CombedOut x = Check.of(text);
        Check.book(x, 1, "day 60;day 60;day 60;day 60;day 60;day 60;day 37;");
        x.image(0);
        Check.due("3 are left", x.drawn(60, 5), 3);
        Check.due("DAY", x.now(0), 400);
        String row = Check.row(x, 0) + " " + Check.row(x, 1);
        x.restore(0);
        x.drawn(3, 5);
        Check.due("as three alone", Check.row(x, 0) + " " + Check.row(x, 1), row);
        Check.due("none is left", x.drawn(1, 5), 0);
        Check.due("nothing is done then", Check.row(x, 0) + " " + Check.row(x, 1), row);
        Check.due("one act", x.undo(), 0);
        Check.due("and no other", x.undo(), -1);
    }

    private static void oddsCall() {
        Check.says("odds: NONE: no such ones");
        CombedOut x = hair("");
        Check.due("odds(2, 1, 1)", x.odds(2, 1, 1), -1);
        Check.due("odds(0, 0, 1)", x.odds(0, 0, 1), -1);
        Check.due("odds(0, 31, 1)", x.odds(0, 31, 1), -1);
        for (int far : FAR) {
            Check.due("odds(" + far + ", 1, 1)", x.odds(far, 1, 1), -1);
            Check.due("odds(0, " + far + ", 1)", x.odds(0, far, 1), -1);
        }
        Check.due("odds(1, 1, 1)", x.odds(1, 1, 1), 0);
        Check.due("odds(1, 30, min)", x.odds(1, 30, Integer.MIN_VALUE) >= 0, true);
    }

    private static void oddsSeeds() {
        Check.says("Of n (1 to 30) seeds x, x and 1, .. by how many a PERSON's hair is a NEST behind 10 DAYS DRAWN from now on");
        String text = "thing a 9 1;thing b 9 1;person p 99;person q 99;comb 8;daily p a 4;daily q b 5;caught p a;caught p b;"
            + "caught p a;caught p b;caught p a;caught q b;caught q a;caught q b;caught q a;";
        CombedOut x = Check.of(text);
        for (int from : new int[] {3, Integer.MAX_VALUE - 4}) {
            int[] found = new int[2];
            for (int i = 0; i < 30; i++) {
                x.drawn(10, from + i);
                for (int p = 0; p < 2; p++) {
                    found[p] += (int) Check.person(x, p, 6);
                }
                x.undo();
                for (int p = 0; p < 2; p++) {
                    Check.due("odds(" + p + ", " + (i + 1) + ", " + from + ")", x.odds(p, i + 1, from), found[p]);
                }
            }
            Check.due("some of p", found[0] > 0 && found[0] < 30, true);
            Check.due("some of q", found[1] > 0 && found[1] < 30, true);
        }
        // Just 10 DAYS: by the ninth and the eleventh DAY it would be another number.
        CombedOut y = Check.of("thing a 9 1;person p 1;comb 1;daily p a 5;daily p a 5;daily p a 5;daily p a 5;");
        int found = 0;
        for (int i = 0; i < 30; i++) {
            y.drawn(10, i);
            found += (int) Check.person(y, 0, 6);
            y.undo();
        }
        Check.due("by day 10", y.odds(0, 30, 0), found);
        y.days(1);
        int later = 0;
        for (int i = 0; i < 30; i++) {
            y.drawn(10, i);
            later += (int) Check.person(y, 0, 6);
            y.undo();
        }
        Check.due("from now on", y.odds(0, 30, 0), later);
    }

    private static void oddsChangeNothing() {
        Check.says("odds: by how many (nothing else is said to come of it)");
        CombedOut x = Check.of(TWO + "bed x 9;" + caught("abba"));
        x.stroke(0, 1);
        String seen = brief(x);
        x.odds(0, 30, 9);
        Check.due("all is as it was", brief(x), seen);
        Check.due("one act to undo", x.undo(), 0);
        CombedOut y = Check.of("thing a 1 1;person p 9;person q 9;" + "caught p a;".repeat(8));
        Check.book(y, 1, "day 60;day 60;day 60;day 60;day 60;day 60;day 40;");
        Check.due("on DAY 400 none goes: a NEST", y.odds(0, 30, 1), 30);
        Check.due("on DAY 400 none goes: no NEST", y.odds(1, 30, 1), 0);
    }
}
