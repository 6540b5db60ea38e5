/** "Terms", QUARTER, BOOK and SENTENCE: a test for each sentence that names an edge. */
public final class TextEdgesTest {
    private static final String BASE = "thing t 1 1;person p 9;bed b 5;";

    public static void main(String[] args) {
        quarterBytes();
        linesOfAQuarter();
        hold();
        spring();
        bears();
        caught();
        every();
        needs();
        comb();
        toldOnce();
        numbered();
        bookBytes();
        bookLines();
        bookStroke();
        bookDay();
        bookActs();
        sentenceBytes();
        binding();
        nots();
        bare();
        nest();
        sore();
        has();
        like();
        caughtKnots();
        painNumber();
        signs();
        ones();
        saidOfPersons();
        Check.finish();
    }

    private static void quarter(String text, String due) {
        Check.due("quarter '" + text + "'", Check.quarterTold(text), due);
    }

    private static void book(String text, String due) {
        Check.due("book '" + text + "'", Check.bookTold(BASE, text), due);
    }

    private static void sentence(String text, String due) {
        Check.due("sentence '" + text + "'", Check.sentenceTold(BASE, text), due);
    }

    private static void said(CombedOut x, String text, String who) {
        Check.sentence(x, text);
        Check.due("fault() of '" + text + "'", x.fault(), 0);
        Check.due("said '" + text + "'", Check.saidOf(x), who);
    }

    private static void quarterBytes() {
        Check.says("A QUARTER is a text of at most 900 bytes");
        quarter(" ".repeat(888) + "thing t 1 1;", "1 LINES");
        quarter(" ".repeat(889) + "thing t 1 1;", "1 at 900");
        quarter("thing t 1 1;" + "\n".repeat(888), "1 LINES");
        quarter("thing t 1 1;" + "\n".repeat(889), "1 at 900");
        quarter("thing t 1 1;" + "\n".repeat(928), "1 at 900");
        // As full as one can be told, and it goes in.
        String full = "thing a 1 1;thing b 1 1;thing c 1 1;thing d 1 1;thing e 1 1;thing f 1 1;thing g 1 1;thing h 1 1;"
            + "person p 9;person q 9;person r 9;person s 9;person t 9;person u 9;" + "daily p a 1;".repeat(12)
            + "bed v 9;bed w 9;bed x 9;bed y 9;comb 20;" + "caught p a;".repeat(8) + "caught q b;".repeat(8)
            + "caught r c;".repeat(8) + "caught s d;".repeat(8) + "caught t e;".repeat(8) + "caught u f;".repeat(8);
        quarter(full, "79 LINES");
        quarter(full + " ".repeat(900 - full.length()), "79 LINES");
        quarter(full + " ".repeat(901 - full.length()), "1 at 900");
    }

    private static void linesOfAQuarter() {
        Check.says("{ LINE ; }");
        quarter("", "0 LINES");
        quarter("\n", "0 LINES");
        quarter("comb 5;", "1 LINES");
        quarter("comb 5;thing t 1 1;", "2 LINES");
        quarter("comb 5", "1 at 6");
        quarter("comb 5;thing t 1 1", "1 at 18");
        quarter("comb 5 thing t 1 1;", "1 at 7");
        quarter("comb 5;;", "1 at 7");
        quarter(";", "1 at 0");
    }

    private static void hold() {
        Check.says("HOLD (1 to 9)");
        quarter("thing t 0 1;", "2 at 8");
        quarter("thing t 1 1;", "1 LINES");
        quarter("thing t 9 1;", "1 LINES");
        quarter("thing t 10 1;", "2 at 8");
        Check.due("the least", Check.of("thing t 1 5;").thing(0, 0), 1);
        Check.due("the most", Check.of("thing t 9 5;").thing(0, 0), 9);
    }

    private static void spring() {
        Check.says("SPRING (0 to 9)");
        quarter("thing t 1 0;", "1 LINES");
        quarter("thing t 1 9;", "1 LINES");
        quarter("thing t 1 10;", "2 at 10");
        Check.due("the least", Check.of("thing t 5 0;").thing(0, 1), 0);
        Check.due("the most", Check.of("thing t 5 9;").thing(0, 1), 9);
    }

    private static void bears() {
        Check.says("BEARS (1 to 99)");
        quarter("person p 0;", "2 at 9");
        quarter("person p 1;", "1 LINES");
        quarter("person p 99;", "1 LINES");
        quarter("person p 100;", "2 at 9");
        Check.due("the least", Check.person(Check.of("person p 1;"), 0, 0), 1);
        Check.due("the most", Check.person(Check.of("person p 99;"), 0, 0), 99);
    }

    private static void caught() {
        Check.says("'caught': it lies outside of those told there ahead");
        CombedOut x = Check.of("thing t 1 1;thing u 1 1;thing v 1 1;person p 9;person q 9;"
            + "caught p u;caught q v;caught p t;caught p v;caught q t;caught p t;");
        Check.due("row of p", Check.row(x, 0), "1020");
        Check.due("row of q", Check.row(x, 1), "20");
        Check.says("8 'caught' of each");
        Check.due("eight", Check.row(Check.of(BASE + "caught p t;".repeat(8)), 0), "00000000");
        quarter(BASE + "caught p t;".repeat(9), "4 at " + (BASE.length() + 8 * 11 + 7));
    }

    private static void every() {
        Check.says("EVERY (1 to 9 DAYS)");
        int at = BASE.length() + 10;
        quarter(BASE + "daily p t 0;", "2 at " + at);
        quarter(BASE + "daily p t 1;", "4 LINES");
        quarter(BASE + "daily p t 9;", "4 LINES");
        quarter(BASE + "daily p t 10;", "2 at " + at);
        for (int every = 1; every <= 9; every++) {
            Check.due("first on day " + every, Check.of(BASE + "caught p t;".repeat(7) + "daily p t " + every + ";").nests(0), every);
        }
    }

    private static void needs() {
        Check.says("NEEDS (1 to 99)");
        quarter("bed b 0;", "2 at 6");
        quarter("bed b 1;", "1 LINES");
        quarter("bed b 99;", "1 LINES");
        quarter("bed b 100;", "2 at 6");
        Check.due("the least", Check.of("bed b 1;").bed(0, 0), 1);
        Check.due("the most", Check.of("bed b 99;").bed(0, 0), 99);
    }

    private static void comb() {
        Check.says("'comb' N (1 to 20; once; 9 without)");
        quarter("comb 0;", "2 at 5");
        quarter("comb 1;", "1 LINES");
        quarter("comb 20;", "1 LINES");
        quarter("comb 21;", "2 at 5");
        quarter("comb 1;comb 1;", "3 at 7");
        Check.due("the least", Check.of("comb 1;").count(4), 1);
        Check.due("the most", Check.of("comb 20;").count(4), 20);
        Check.due("without", Check.of("thing t 1 1;").count(4), 9);
        CombedOut x = Check.of("comb 20;");
        Check.quarter(x, "");
        Check.due("without, behind one with", x.count(4), 9);
        Check.quarter(x, "comb 3;oh");
        Check.due("one with a FAULT tells none", x.count(4), 9);
        Check.quarter(x, "bed b 1;");
        Check.due("without, behind one with a FAULT", x.count(4), 9);
    }

    private static void toldOnce() {
        Check.says("NAME: told once");
        quarter("thing t 1 1;person p 1;bed b 1;", "3 LINES");
        quarter("thing t 1 1;person t 1;", "3 at 19");
        quarter("person p 1;bed p 1;", "3 at 15");
        quarter("bed b 1;thing b 1 1;", "3 at 14");
        // The same NAME in a text that comes later is told once there.
        CombedOut x = Check.of("thing t 1 1;");
        Check.due("as a PERSON then", Check.quarter(x, "person t 1;"), 1);
    }

    private static void numbered() {
        Check.says("8 THINGS, 6 PERSONS, 12 'daily' in all, 4 BEDS at most, numbered from 0 each");
        CombedOut x = Check.of("bed v 1;thing a 1 0;person p 11;thing b 2 1;person q 12;thing c 3 2;person r 13;thing d 4 3;"
            + "person s 14;thing e 5 4;person t 15;thing f 6 5;person u 16;thing g 7 6;thing h 8 7;bed w 2;bed x 3;bed y 4;"
            + "daily p a 1;daily u h 9;");
        for (int i = 0; i < 8; i++) {
            Check.due("HOLD " + i, x.thing(i, 0), i + 1);
            Check.due("SPRING " + i, x.thing(i, 1), i);
        }
        for (int i = 0; i < 6; i++) {
            Check.due("BEARS " + i, Check.person(x, i, 0), i + 11);
        }
        for (int i = 0; i < 4; i++) {
            Check.due("NEEDS " + i, x.bed(i, 0), i + 1);
        }
        Check.due("'daily'", x.count(2), 2);
        Check.due("8 THINGS", x.count(0), 8);
        Check.due("6 PERSONS", x.count(1), 6);
        Check.due("4 BEDS", x.count(3), 4);
        CombedOut y = Check.of(BASE + "daily p t 9;".repeat(12));
        Check.due("12 'daily'", y.count(2), 12);
        Check.due("all twelve catch", y.nests(0), 9);
    }

    private static void bookBytes() {
        Check.says("A BOOK is a text of at most 400 bytes");
        book("day 1;" + " ".repeat(394), "fine");
        book("day 1;" + " ".repeat(395), "1 at 400");
        book(" ".repeat(394) + "p cut;", "line 0");
        book(" ".repeat(395) + "p cut;", "1 at 400");
        book("day 1;" + " ".repeat(934), "1 at 400");
    }

    private static void bookLines() {
        Check.says("{ LINE ; }, 40 at most");
        book("", "fine");
        book(" ", "fine");
        book("day 1", "1 at 5");
        book("day 1 day 1;", "1 at 6");
        book("day 1;;", "1 at 6");
        book("day 1;".repeat(39), "fine");
        book("day 1;".repeat(40), "fine");
        book("day 1;".repeat(41), "4 at 240");
        CombedOut x = Check.of(BASE);
        Check.book(x, 1, "day 1;".repeat(40));
        Check.due("all forty are lived", x.now(0), 40);
        Check.due("told(1)", x.told(1), 40);
    }

    private static void bookStroke() {
        Check.says("PERSON 'stroke' N (1 to 20)");
        book("p stroke 0;", "2 at 9");
        book("p stroke 1;", "line 0");
        book("p stroke 20;", "line 0");
        book("p stroke 21;", "2 at 9");
        CombedOut x = Check.of(BASE + "person q 99;caught q t;caught p t;comb 20;");
        Check.due("the least", Check.book(x, 1, "p stroke 1;"), -1);
        Check.due("its PAIN", Check.person(x, 0, 1), 1);
        Check.due("the most", Check.book(x, 1, "q stroke 20;"), -1);
        Check.due("its PAIN", Check.person(x, 1, 1), 20);
    }

    private static void bookDay() {
        Check.says("'day' N (1 to 60)");
        book("day 0;", "2 at 4");
        book("day 1;", "fine");
        book("day 60;", "fine");
        book("day 61;", "2 at 4");
        CombedOut x = Check.of(BASE);
        Check.book(x, 1, "day 1;day 60;");
        Check.due("DAYS gone", x.now(0), 61);
    }

    private static void bookActs() {
        Check.says("PERSON ( 'stroke' N | 'cut' | 'catches' THING ) | 'stuff' BED THING | 'day' N");
        CombedOut x = Check.of("thing t 1 1;thing u 2 5;person p 9;person q 9;bed b 9;bed c 5;");
        Check.due("all of them", Check.book(x, 1, "q catches t;q catches u;q catches t;q catches u;q cut;q stroke 3;"
            + "stuff c u;stuff b t;day 2;p catches u;"), -1);
        Check.due("row of q", Check.row(x, 1), "0");
        Check.due("row of p", Check.row(x, 0), "1");
        Check.due("SPRING of c", x.bed(1, 1), 5);
        Check.due("SPRING of b", x.bed(0, 1), 1);
        Check.due("DAY", x.now(0), 2);
        Check.due("lost", x.now(6), 1);
        book("p cut", "1 at 5");
        book("p catches t", "1 at 11");
        book("stuff b t", "1 at 9");
    }

    private static void sentenceBytes() {
        Check.says("A SENTENCE is a text of at most 200 bytes");
        sentence("bare" + " ".repeat(196), "1 ONES");
        sentence("bare" + " ".repeat(197), "1 at 200");
        sentence(" ".repeat(196) + "bare", "1 ONES");
        sentence(" ".repeat(195) + "bare ", "1 ONES");
        sentence(" ".repeat(197) + "bare", "1 at 200");
        sentence("bare" + " ".repeat(936), "1 at 200");
    }

    private static final String THREE = "thing t 1 1;thing u 2 1;person p 9;person q 9;person r 9;person s 9;"
        + "caught q t;caught r u;caught s t;caught s u;";

    private static void binding() {
        Check.says("COND: ALL { 'or' ALL }. ALL: ONE { 'and' ONE }");
        CombedOut x = Check.of(THREE);
        said(x, "bare or has t and has u", "03");
        said(x, "has t and has u or bare", "03");
        said(x, "(bare or has t)and has u", "3");
        said(x, "has u and(bare or has t)", "3");
        said(x, "has t or has u or bare", "0123");
        said(x, "has t and has u and not bare", "3");
        said(x, "bare and has t or has u and has t or number = 1 and has t", "13");
        said(x, "number = 0 or number = 1 and bare or number = 2", "02");
        said(x, "(has t or bare)and(has u or bare)", "03");
    }

    private static void nots() {
        Check.says("ONE: 'not' ONE");
        CombedOut x = Check.of(THREE);
        said(x, "not has t", "02");
        said(x, "not not has t", "13");
        said(x, "not has t and has u", "2");
        said(x, "not(has t and has u)", "012");
        said(x, "not has t or has u", "023");
        said(x, "has u and not has t", "2");
        said(x, "not not not has t and not bare", "2");
    }

    private static void bare() {
        Check.says("'bare' (nothing is in his hair)");
        CombedOut x = Check.of(THREE);
        said(x, "bare", "0");
        x.snag(0, 0);
        Check.due("one thing in it", Check.saidOf(x), "");
        x.cut(1);
        Check.due("cut", Check.saidOf(x), "1");
    }

    private static void nest() {
        Check.says("'nest'");
        CombedOut x = Check.of(BASE + "caught p t;".repeat(7));
        said(x, "nest", "");
        x.snag(0, 0);
        Check.due("eight things", Check.saidOf(x), "0");
    }

    private static void sore() {
        Check.says("'sore' (he bears no more today)");
        CombedOut x = Check.of("thing t 1 1;thing u 1 1;person p 9;person q 1;caught p t;caught p u;caught q t;");
        said(x, "sore", "");
        x.stroke(1, 1);
        Check.due("1 of 1", Check.saidOf(x), "1");
        x.stroke(0, 1);
        x.snag(0, 0);
        x.snag(0, 0);
        x.stroke(0, 7);
        Check.due("8 of 9", Check.saidOf(x), "1");
        x.snag(0, 0);
        x.stroke(0, 1);
        Check.due("9 of 9", Check.saidOf(x), "01");
        x.days(1);
        Check.due("the next day", Check.saidOf(x), "");
    }

    private static void has() {
        Check.says("'has' THING (in his hair)");
        CombedOut x = Check.of("thing t 1 1;thing u 1 1;person p 9;person q 9;caught p u;caught p t;caught p u;caught q u;");
        said(x, "has t", "0");
        said(x, "has u", "01");
        x.stroke(1, 1);
        Check.due("in the bag is not in his hair", Check.saidOf(x), "0");
    }

    private static void like() {
        Check.says("'like' PERSON (he is LIKE that one)");
        CombedOut x = Check.of(THREE);
        said(x, "like p", "0");
        said(x, "like s", "3");
        x.snag(1, 1);
        Check.due("the same row", Check.saidOf(x), "13");
        said(x, "like q and not like p", "13");
        x.cut(2);
        said(x, "like r", "02");
    }

    private static void caughtKnots() {
        Check.says("'caught' | 'knots' (things in his hair; how many KNOTS)");
        CombedOut x = Check.of("thing t 1 1;thing u 1 1;person p 9;person q 9;caught p t;caught p t;caught p u;caught p t;"
            + "caught q t;caught q t;caught q t;caught q t;");
        said(x, "caught = 4", "01");
        said(x, "knots = 3", "0");
        said(x, "knots = 1", "1");
        x.cut(1);
        said(x, "caught = 0", "1");
        said(x, "knots = 0", "1");
    }

    private static void painNumber() {
        Check.says("'pain' | 'number' (his PAIN; his number)");
        CombedOut x = Check.of(THREE);
        x.stroke(1, 3);
        said(x, "pain = 3", "1");
        said(x, "pain = 0", "023");
        said(x, "number = 0", "0");
        said(x, "number = 3", "3");
        said(x, "number = 4", "");
        said(x, "number > 0", "123");
    }

    private static void signs() {
        Check.says("SIGN: < = >");
        CombedOut x = Check.of(THREE);
        said(x, "number < 2", "01");
        said(x, "number = 2", "2");
        said(x, "number > 2", "3");
        said(x, "number < 0", "");
        said(x, "number > 999", "");
        said(x, "number < 999", "0123");
        said(x, "number < 004", "0123");
    }

    private static void ones() {
        Check.says("20 ONES, 8 within one another");
        sentence("bare", "1 ONES");
        sentence("bare" + " and bare".repeat(19), "20 ONES");
        sentence("bare" + " and bare".repeat(20), "4 at " + (4 + 19 * 9 + 5));
        sentence("not not not not not not not bare", "8 ONES");
        sentence("not not not not not not not not bare", "4 at 32");
        // As deep and as many as can be, and it is still said rightly.
        CombedOut x = Check.of(THREE);
        said(x, "(not(not(not bare))and has t or has u)", "123");
        said(x, "not(not(not(has t or has u and not bare)))and(not nest or sore)or number=3 and has u", "03");
        said(x, "number=0 or bare" + " and bare".repeat(18), "0");
        said(x, "bare" + " or bare".repeat(18) + " or number=2", "02");
    }

    private static void saidOfPersons() {
        Check.says("It is said of PERSONS");
        CombedOut x = new CombedOut();
        Check.due("a SENTENCE without anybody", Check.sentence(x, "bare or not bare"), 4 - 1);
        Check.due("of how many", x.said(-1), 0);
        Check.due("the first", x.said(0), -1);
        CombedOut y = Check.of("person p 1;person q 1;person r 1;person s 1;person t 1;person u 1;");
        said(y, "bare", "012345");
    }
}
