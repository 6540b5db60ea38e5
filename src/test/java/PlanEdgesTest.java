/** "Terms" 3 and promises 17 to 29: a test for each sentence that names an edge. */
public final class PlanEdgesTest {
    private static final int[] FAR = {Integer.MIN_VALUE, -2, -1, 99, Integer.MAX_VALUE};

    public static void main(String[] args) {
        easeBare();
        easeByNone();
        easeFewest();
        easeNow();
        easeNoSuch();
        nestsNow();
        nestsDays();
        nestsNinetyNine();
        nestsDay400();
        nestsNoSuch();
        roundForce();
        roundWho();
        roundMost();
        roundLeastInAll();
        roundLeastBits();
        roundedLatest();
        bedsMost();
        bedsSomeOrAll();
        bedsAnew();
        bedsThoseOnWhichOneDoes();
        bedsLeastBits();
        beddedLatest();
        fitsBytes();
        fitsOutsidePart();
        fitsNotAsTold();
        askLayers();
        askNothingLies();
        askLeast();
        askThen();
        like();
        still();
        hardest();
        mean();
        meanThrows();
        tag();
        tagBare();
        byteAt();
        Check.finish();
    }

    private static void easeBare() {
        Check.says("EASE: STROKES (0: he is bare)");
        CombedOut x = Check.of("thing a 1 1;person p 1;person q 1;caught q a;");
        Check.due("bare", x.ease(0), 0);
        Check.due("not bare", x.ease(1), 1);
        x.cut(1);
        Check.due("bare then", x.ease(1), 0);
    }

    private static void easeByNone() {
        Check.says("EASE: NONE: by none");
        CombedOut x = Check.of("thing a 3 1;thing b 1 1;person p 99;person q 10;person r 9;comb 9;caught p b;"
            + "caught p a;caught p a;caught p a;caught q b;caught q a;caught q a;caught q a;caught r b;caught r a;caught r a;caught r a;");
        Check.due("a KNOT of 9 by a comb of 9", x.ease(0), 2);
        Check.due("10 of 10", x.ease(1), 2);
        Check.due("10 of 9", x.ease(2), -1);
        x.snag(0, 0);
        Check.due("a KNOT of 12 by a comb of 9", x.ease(0), -1);
        x.cut(0);
        for (int i = 0; i < 4; i++) {
            x.snag(0, 0);
        }
        x.snag(0, 1);
        Check.due("a KNOT of 12 below", x.ease(0), -1);
    }

    private static void easeFewest() {
        Check.says("EASE of a PERSON: the fewest STROKES, behind one another now, behind which nothing is in his hair");
        String quarter = "thing a 1 1;thing b 2 1;thing c 3 1;person p 99;";
        String[] rows = {"a", "ab", "abc", "abcabc", "cba", "aabbcc", "abababab", "cccbcbc"};
        for (int comb = 1; comb <= 20; comb++) {
            for (String row : rows) {
                StringBuilder text = new StringBuilder(quarter).append("comb ").append(comb).append(';');
                for (char t : row.toCharArray()) {
                    text.append("caught p ").append(t).append(';');
                }
                Model m = new Model();
                m.quarter(text.toString());
                Check.due("ease of " + row + " by " + comb, Check.of(text.toString()).ease(0), m.ease(0));
            }
        }
        CombedOut x = Check.of(quarter + "comb 5;caught p c;caught p b;caught p c;caught p b;caught p c;");
        Check.due("cb cb c by 5", x.ease(0), 3);
        CombedOut y = Check.of(quarter + "comb 4;caught p c;caught p b;caught p c;caught p b;caught p c;");
        Check.due("c b c b c by 4", y.ease(0), 5);
        CombedOut z = Check.of("thing a 1 1;thing b 1 1;person p 8;comb 1;" + "caught p a;caught p b;".repeat(4));
        Check.due("eight strokes", z.ease(0), 8);
    }

    private static void easeNow() {
        Check.says("behind one another now");
        CombedOut x = Check.of("thing a 2 1;thing b 3 1;person p 10;comb 5;caught p a;caught p b;caught p a;caught p b;");
        Check.due("10 of 10", x.ease(0), 2);
        x.stroke(0, 3);
        Check.due("7 left, and 7 to bear", x.ease(0), 2);
        Check.due("a stroke that wastes 1", x.stroke(0, 3), 0);
        Check.due("5 left, and 4 to bear", x.ease(0), -1);
        x.days(1);
        Check.due("the next day", x.ease(0), 1);
        Check.due("nothing is done by it", Check.row(x, 0), "01");
    }

    private static void easeNoSuch() {
        Check.says("EASE: NONE: no such one");
        CombedOut x = Check.of("person p 9;");
        Check.due("ease(1)", x.ease(1), -1);
        for (int far : FAR) {
            Check.due("ease(" + far + ")", x.ease(far), -1);
        }
    }

    private static void nestsNow() {
        Check.says("NESTS: DAYS (0: it is one)");
        CombedOut x = Check.of("thing a 1 1;person p 9;daily p a 1;" + "caught p a;".repeat(7));
        Check.due("seven", x.nests(0), 1);
        x.snag(0, 0);
        Check.due("eight", x.nests(0), 0);
    }

    private static void nestsDays() {
        Check.says("NESTS of one: behind how many DAYS it is a NEST, if nothing else is done");
        CombedOut x = Check.of("thing a 1 1;thing b 1 1;person p 9;person q 9;daily p a 2;daily q a 1;daily p b 3;");
        Check.due("2 3 4 6 6 8 9 10", x.nests(0), 10);
        Check.due("q", x.nests(1), 8);
        x.days(3);
        Check.due("7 more", x.nests(0), 7);
        Check.due("q's 5", x.nests(1), 5);
        CombedOut y = Check.of("thing a 1 1;person p 9;" + "daily p a 1;".repeat(12));
        Check.due("more than eight in a day", y.nests(0), 1);
        Check.due("nothing is done by it", y.now(0), 0);
        Check.due("no row", Check.row(y, 0), "");
    }

    private static void nestsNinetyNine() {
        Check.says("NESTS: NONE: not in 99");
        CombedOut x = Check.of("thing a 1 1;person p 9;person q 9;daily p a 9;daily q a 9;");
        Check.due("8 times 9", x.nests(0), 72);
        CombedOut y = Check.of("thing a 1 1;person p 9;person q 9;daily p a 9;caught q a;");
        Check.due("by none told", y.nests(1), -1);
        // By one 'daily' it is 72 DAYS at most: with none it is never, and no number between can come.
        for (int start = 0; start <= 9; start++) {
            Model m = new Model();
            String text = "thing a 1 1;person p 9;daily p a 9;";
            m.quarter(text);
            CombedOut z = Check.of(text);
            if (start > 0) {
                z.days(start);
                m.days(start);
            }
            Check.due("from " + start, z.nests(0), m.nests(0));
        }
        CombedOut w = Check.of("thing a 1 1;person p 9;daily p a 9;");
        w.days(9);
        w.cut(0);
        Check.due("72 behind a cut", w.nests(0), 72);
        w.undo();
        w.undo();
        w.days(1);
        Check.due("71", w.nests(0), 71);
    }

    private static void nestsDay400() {
        Check.says("NESTS: DAY 400 no matter");
        CombedOut x = Check.of("thing a 1 1;person p 9;daily p a 9;daily p a 8;");
        Check.book(x, 1, "day 60;day 60;day 60;day 60;day 60;day 60;day 40;p cut;");
        Check.due("405 408 414 416 423 424 432 432", x.nests(0), 32);
        Check.due("DAY", x.now(0), 400);
        CombedOut y = Check.of("thing a 1 1;person p 9;daily p a 9;");
        Check.book(y, 1, "day 60;day 60;day 60;day 60;day 60;day 60;day 39;p cut;");
        Check.due("over DAY 400: 405 and 63", y.nests(0), 69);
    }

    private static void nestsNoSuch() {
        Check.says("NESTS: NONE: no such one");
        CombedOut x = Check.of("thing a 1 1;person p 9;daily p a 1;");
        Check.due("nests(1)", x.nests(1), -1);
        for (int far : FAR) {
            Check.due("nests(" + far + ")", x.nests(far), -1);
        }
    }

    private static void round(CombedOut x, int force, int many, int who) {
        Check.due("round(" + force + ")", x.round(force), many);
        Check.due("rounded() of it", x.rounded(), who);
    }

    private static void roundForce() {
        Check.says("ROUND of a force n (0 to 999): how many PERSONS; NONE: not as told");
        CombedOut x = Check.of("thing a 1 1;person p 9;caught p a;");
        round(x, 0, 0, 0);
        round(x, 999, 1, 1);
        Check.due("round(-1)", x.round(-1), -1);
        Check.due("round(1000)", x.round(1000), -1);
        for (int far : new int[] {Integer.MIN_VALUE, -2, 1001, Integer.MAX_VALUE}) {
            Check.due("round(" + far + ")", x.round(far), -1);
        }
        round(x, 1, 1, 1);
        round(new CombedOut(), 999, 0, 0);
    }

    private static void roundWho() {
        Check.says("PERSONS, in whose hair there is something, who can be EASED now");
        CombedOut x = Check.of("thing a 3 1;thing b 1 1;person p 99;person q 9;person r 8;person s 99;person t 99;comb 9;"
            + "caught q a;caught q a;caught q a;caught r a;caught r a;caught r a;caught s a;caught s a;caught s a;caught s a;"
            + "caught t b;");
        // p is bare, r can't bear 9, the comb is too weak for s.
        round(x, 999, 2, 18);
        round(x, 10, 2, 18);
        round(x, 9, 1, 16);
        x.stroke(4, 1);
        round(x, 9, 1, 2);
        round(x, 8, 0, 0);
        x.cut(1);
        round(x, 999, 0, 0);
    }

    private static void roundMost() {
        Check.says("ROUND: the most PERSONS, by STROKES of n together, each of these as little as it can be for him");
        CombedOut x = Check.of("thing a 1 1;thing b 2 1;person p 99;person q 99;person r 99;comb 20;"
            + "caught p b;caught p b;caught p b;caught q a;caught q b;caught r b;caught r a;");
        // 6, 3 and 3: two by 6 ahead of one.
        round(x, 2, 0, 0);
        round(x, 3, 1, 2);
        round(x, 5, 1, 2);
        round(x, 6, 2, 6);
        round(x, 11, 2, 6);
        round(x, 12, 3, 7);
        CombedOut y = Check.of("thing a 9 1;thing b 8 1;person p 99;person q 99;person r 99;person s 99;person t 99;person u 99;"
            + "caught p a;caught p b;caught p a;caught p b;caught p a;caught p b;caught p a;caught p b;caught q a;caught r a;"
            + "caught s a;caught t a;caught u a;");
        round(y, 112, 5, 62);
        round(y, 113, 6, 63);
    }

    private static void roundLeastInAll() {
        Check.says("ROUND: of as many those for whom it is least in all");
        CombedOut x = Check.of("thing a 1 1;thing b 2 1;thing c 3 1;person p 9;person q 9;person r 9;caught p c;caught q b;caught r a;");
        round(x, 3, 2, 6);
        round(x, 5, 2, 6);
        round(x, 2, 1, 4);
        round(x, 1, 1, 4);
        round(x, 6, 3, 7);
    }

    private static void roundLeastBits() {
        Check.says("ROUND: then the least as bits");
        CombedOut x = Check.of("thing a 1 1;thing b 2 1;person p 9;person q 9;person r 9;person s 9;caught p b;caught q a;caught r a;caught s a;");
        round(x, 1, 1, 2);
        round(x, 2, 2, 6);
        round(x, 3, 3, 14);
        x.cut(1);
        round(x, 1, 1, 4);
    }

    private static void roundedLatest() {
        Check.says("Who, as bits, by the latest round() that was not NONE; NONE ahead of any");
        CombedOut x = Check.of("thing a 1 1;person p 9;person q 9;caught q a;");
        Check.due("ahead of any", x.rounded(), -1);
        x.round(-1);
        x.round(1000);
        Check.due("ahead of one that was not NONE", x.rounded(), -1);
        x.round(5);
        Check.due("q", x.rounded(), 2);
        x.round(1000);
        Check.due("NONE leaves it", x.rounded(), 2);
        x.cut(1);
        x.days(1);
        Check.due("acts leave it", x.rounded(), 2);
        x.round(0);
        Check.due("nobody", x.rounded(), 0);
    }

    private static CombedOut bag(String things, String beds, String row) {
        StringBuilder text = new StringBuilder(things).append(beds).append("person p 99;person q 99;comb 20;");
        for (int i = 0; i < row.length(); i++) {
            text.append("caught ").append(i < 8 ? "p " : "q ").append(row.charAt(i)).append(';');
        }
        CombedOut x = Check.of(text.toString());
        if (!row.isEmpty()) {
            x.stroke(0, 20);
        }
        if (row.length() > 8) {
            x.stroke(1, 20);
        }
        Check.due("things in the bag", x.now(1), row.length());
        return x;
    }

    private static void beds(CombedOut x, int many, int which) {
        Check.due("beds()", x.beds(), many);
        Check.due("bedded()", x.bedded(), which);
    }

    private static void bedsMost() {
        Check.says("BEDS: the most BEDS on which one would sleep, if the BAG was STUFFED into them as it should be");
        String things = "thing a 1 5;thing b 1 4;thing c 1 3;thing d 1 0;";
        // 5 4 3 3 by needs of 8 and 7: 5 and 3, 4 and 3; not the greatest first.
        beds(bag(things, "bed v 8;bed w 7;", "abcc"), 2, 3);
        beds(bag(things, "bed v 8;bed w 8;", "abcc"), 1, 1);
        beds(bag(things, "bed v 9;bed w 6;", "abcc"), 2, 3);
        beds(bag(things, "bed v 10;bed w 5;", "abcc"), 2, 3);
        beds(bag(things, "bed v 11;bed w 4;", "abcc"), 2, 3);
        beds(bag(things, "bed v 12;bed w 3;", "abcc"), 2, 3);
        beds(bag(things, "bed v 13;bed w 3;", "abcc"), 1, 1);
        beds(bag(things, "bed v 16;bed w 16;", "abcc"), 0, 0);
        beds(bag(things, "bed v 15;", "abcc"), 1, 1);
        beds(bag(things, "bed v 1;bed w 1;", "dddd"), 0, 0);
        beds(bag(things, "bed v 5;bed w 4;bed x 3;bed y 3;", "abcc"), 4, 15);
        beds(bag(things, "bed v 12;bed w 12;bed x 12;bed y 3;", "aaaaaaabcd"), 3, 7);
        // The spring is enough in all, but not as it is shared out: 5 5 2 by 6 and 6.
        String others = "thing d 1 0;thing a 1 5;thing c 1 2;thing e 1 1;thing f 1 4;";
        beds(bag(others, "bed v 6;bed w 6;", "aac"), 1, 1);
        beds(bag(others, "bed v 6;bed w 6;", "daac"), 1, 1);
        beds(bag(others, "bed v 6;bed w 6;", "aace"), 2, 3);
        beds(bag(others, "bed v 4;bed w 10;", "aaf"), 2, 3);
        beds(bag(others, "bed v 10;bed w 4;", "aaf"), 2, 3);
        beds(bag("thing a 1 9;", "bed v 18;bed w 18;bed x 27;bed y 27;", "aaaaaaaaaa"), 4, 15);
        beds(bag("thing a 1 9;", "bed v 19;bed w 18;bed x 27;bed y 27;", "aaaaaaaaaa"), 3, 7);
        beds(bag("thing a 1 9;", "bed v 90;", "aaaaaaaaaa"), 1, 1);
        beds(bag("thing a 1 9;", "bed v 91;", "aaaaaaaaaa"), 0, 0);
        beds(bag("thing a 1 9;", "", "aaaaaaaaaa"), 0, 0);
        beds(bag("thing a 1 9;", "bed v 1;bed w 1;bed x 1;bed y 1;", ""), 0, 0);
        beds(bag("thing a 1 9;", "bed v 1;bed w 1;bed x 1;bed y 1;", "aaa"), 3, 7);
    }

    private static void bedsSomeOrAll() {
        Check.says("the BAG (some of it, or all)");
        CombedOut x = bag("thing a 1 5;", "bed v 5;bed w 5;bed x 6;", "aaa");
        beds(x, 2, 3);
        Check.due("the bag stays", x.now(1), 3);
        Check.due("no SPRING comes", x.bed(0, 1), 0);
        beds(bag("thing a 1 5;", "bed v 5;bed w 5;bed x 6;", "aaaa"), 3, 7);
    }

    private static void bedsAnew() {
        Check.says("the BAG, as it is now and not as it was by an earlier beds()");
        String things = "thing a 1 5;thing c 1 2;thing e 1 1;thing f 1 4;";
        CombedOut x = bag(things, "bed v 6;bed w 6;bed y 99;", "aace");
        beds(x, 2, 3);
        x.stuff(2, 2);
        beds(x, 1, 1);
        CombedOut y = bag(things, "bed v 4;bed w 5;bed y 99;", "aaf");
        beds(y, 2, 3);
        y.stuff(2, 0);
        beds(y, 2, 3);
    }

    private static void bedsThoseOnWhichOneDoes() {
        Check.says("those on which one does, too");
        CombedOut x = bag("thing a 1 5;", "bed v 5;bed w 5;bed x 5;", "aa");
        x.stuff(2, 0);
        beds(x, 2, 5);
        x.stuff(2, 0);
        beds(x, 1, 4);
        CombedOut y = bag("thing a 1 5;", "bed v 8;bed w 5;", "aa");
        y.stuff(0, 0);
        // What is in a BED already counts, but is not taken out of it.
        beds(y, 1, 1);
        y.stuff(0, 0);
        beds(y, 1, 1);
    }

    private static void bedsLeastBits() {
        Check.says("BEDS: of like ones (all BEDS on which one would sleep) the least as bits");
        beds(bag("thing a 1 5;", "bed v 9;bed w 5;bed x 5;", "a"), 1, 2);
        CombedOut x = bag("thing a 1 5;", "bed v 5;bed w 5;bed x 5;bed y 5;", "aaa");
        x.stuff(3, 0);
        beds(x, 3, 11);
        x.stuff(3, 0);
        beds(x, 2, 9);
    }

    private static void beddedLatest() {
        Check.says("Which, as bits, by the latest beds(); NONE ahead of any");
        CombedOut x = bag("thing a 1 5;", "bed v 5;bed w 5;", "aa");
        Check.due("ahead of any", x.bedded(), -1);
        x.beds();
        Check.due("both", x.bedded(), 3);
        x.stuff(0, 0);
        x.stuff(0, 0);
        Check.due("acts leave it", x.bedded(), 3);
        x.beds();
        Check.due("one", x.bedded(), 1);
    }

    private static final String ROWS = "thing a 1 1;thing b 1 1;person p 9;person q 9;person r 9;person s 9;"
        + "caught p a;caught p a;caught p b;caught p a;caught p a;caught p a;caught p b;caught p a;"
        + "caught q b;caught q a;caught r a;";

    private static void fitsBytes() {
        Check.says("FITS by the tape (1 to 8 bytes: THINGS, the last one outside)");
        CombedOut x = Check.of(ROWS);
        Check.due("no byte", Check.fits(x), -1);
        Check.due("one", Check.fits(x, 0), 7);
        Check.due("eight", Check.fits(x, 0, 0, 1, 0, 0, 0, 1, 0), 1);
        Check.due("eight others", Check.fits(x, 1, 0, 1, 0, 0, 0, 1, 0), 0);
        Check.due("nine", Check.fits(x, 0, 0, 0, 1, 0, 0, 0, 1, 0), -1);
        x.feed(0, 0, 0, 0, 0);
        Check.due("twenty", x.fits(), -1);
        Check.due("the tape is empty", x.count(5), 0);
        Check.due("the order", Check.fits(x, 0, 1), 0);
    }

    private static void fitsOutsidePart() {
        Check.says("PERSONS of whose row the outside part is just that");
        CombedOut x = Check.of(ROWS);
        Check.due("b a", Check.fits(x, 1, 0), 3);
        Check.due("a b a", Check.fits(x, 0, 1, 0), 1);
        Check.due("longer than q's row", Check.fits(x, 1, 1, 0), 0);
        Check.due("inside alone", Check.fits(x, 1), 0);
        x.cut(0);
        Check.due("b behind a cut", Check.fits(x, 1), 1);
    }

    private static void fitsNotAsTold() {
        Check.says("FITS: NONE: not as told (a byte that is no THING, too)");
        CombedOut x = Check.of(ROWS);
        Check.due("2", Check.fits(x, 2), -1);
        Check.due("0 and 2", Check.fits(x, 0, 2), -1);
        Check.due("2 and 0", Check.fits(x, 2, 0), -1);
        Check.due("255", Check.fits(x, 255), -1);
        Check.due("128", Check.fits(x, 128), -1);
        Check.due("a letter", Check.fits(x, 'a'), -1);
        Check.due("the tape is empty", x.count(5), 0);
        Check.due("1", Check.fits(x, 1), 0);
        CombedOut y = Check.of("thing a 1 1;thing b 1 1;thing c 1 1;thing d 1 1;thing e 1 1;thing f 1 1;thing g 1 1;thing h 1 1;"
            + "person p 1;caught p h;");
        Check.due("7", Check.fits(y, 7), 1);
        Check.due("8", Check.fits(y, 8), -1);
        Check.due("without THINGS", Check.fits(new CombedOut(), 0), -1);
    }

    private static CombedOut persons(String... rows) {
        StringBuilder text = new StringBuilder("thing a 1 1;thing b 1 1;thing c 1 1;");
        for (int p = 0; p < rows.length; p++) {
            char name = (char) ('p' + p);
            text.append("person ").append(name).append(" 9;");
            for (char t : rows[p].toCharArray()) {
                text.append("caught ").append(name).append(' ').append(t).append(';');
            }
        }
        return Check.of(text.toString());
    }

    private static void ask(int due, String... rows) {
        CombedOut x = persons(rows);
        Check.due("fits() of " + String.join(" ", rows), Check.fits(x, 0), (1 << rows.length) - 1);
        Check.due("ask() of " + String.join(" ", rows), x.ask(), due);
    }

    private static void askLayers() {
        Check.says("ASK: of which layer from the outside (0: the outside one; to 7) one should know what lies there");
        ask(0, "a");
        ask(0, "a", "a");
        ask(1, "aa", "ba");
        ask(2, "aaa", "baa");
        ask(7, "aaaaaaaa", "baaaaaaa");
        ask(6, "aaaaaaaa", "abaaaaaa");
        CombedOut x = persons("ab", "aa", "ba");
        Check.due("p does not fit", Check.fits(x, 0), 6);
        Check.due("only those that fit matter", x.ask(), 1);
    }

    private static void askNothingLies() {
        Check.says("ASK: (or that nothing does)");
        ask(1, "a", "aa");
        ask(7, "aaaaaaa", "aaaaaaaa");
        ask(1, "a", "aa", "ba", "ca");
        ask(1, "a", "a", "aa", "aa", "ba", "ba");
    }

    private static void askLeast() {
        Check.says("ASK: so that the greatest number of these that may still be left is the least (of like ones the least)");
        // Layer 1 leaves three of four, layer 2 two of four at most.
        ask(2, "aba", "bba", "bba", "aca");
        // Layer 1 and 2 leave two alike: the least.
        ask(1, "aaa", "baa", "aba", "bba");
        // Layer 2 leaves one alone in each case.
        ask(2, "aaa", "baa", "caa", "aa");
        // Two, two and two are better than three and three.
        ask(3, "aaaa", "abaa", "bbaa", "baaa", "caaa", "cbaa");
    }

    private static void askThen() {
        Check.says("ASK by the latest fits() above 0 (by what was so then); NONE ahead of any");
        CombedOut x = persons("aaa", "baa", "b");
        Check.due("ahead of any", x.ask(), -1);
        Check.fits(x);
        Check.fits(x, 9);
        Check.due("a fits() of 0", Check.fits(x, 2), 0);
        Check.due("ahead of one above 0", x.ask(), -1);
        Check.due("fits()", Check.fits(x, 0), 3);
        Check.due("layer 2", x.ask(), 2);
        x.cut(0);
        x.cut(1);
        Check.due("as it was so then", x.ask(), 2);
        Check.due("a fits() of 0 leaves it", Check.fits(x, 2), 0);
        Check.due("layer 2 still", x.ask(), 2);
        Check.fits(x);
        Check.due("a fits() of NONE leaves it", x.ask(), 2);
        Check.due("fits() anew", Check.fits(x, 1), 6);
        Check.due("alike ones: the outside one", x.ask(), 0);
    }

    private static void like() {
        Check.says("LIKE: two PERSONS of whom the rows are the same (also without any things)");
        CombedOut x = persons("ab", "ba", "ab", "", "a", "");
        int[] due = {4, 0, 1, 32, 0, 8};
        for (int p = 0; p < 6; p++) {
            Check.due("like(" + p + ")", x.like(p), due[p]);
        }
        CombedOut z = persons("aab", "bab", "aab", "aba", "aa", "aaba");
        int[] ends = {4, 0, 1, 0, 0, 0};
        for (int p = 0; p < 6; p++) {
            Check.due("another crown, another end, another length: like(" + p + ")", z.like(p), ends[p]);
        }
        Check.says("each is LIKE himself");
        for (int p = 0; p < 6; p++) {
            Check.sentence(x, "like " + (char) ('p' + p));
            Check.due("said of all he is like and himself", x.said(-1), Integer.bitCount(due[p]) + 1);
        }
        Check.says("Other PERSONS whom one is LIKE, as bits; NONE: no such one");
        Check.due("like(6)", x.like(6), -1);
        for (int far : FAR) {
            Check.due("like(" + far + ")", x.like(far), -1);
        }
        CombedOut y = persons("", "", "", "", "", "");
        Check.due("all alike", y.like(2), 59);
    }

    private static void still() {
        Check.says("STILL of a THING: how many such are in all hair, in the BAG and in BEDS");
        CombedOut x = Check.of("thing a 1 1;thing b 1 1;person p 99;person q 99;bed x 9;comb 20;caught p a;caught p b;caught p a;"
            + "caught q a;caught q a;");
        Check.due("in all hair", x.thing(0, 4), 4);
        x.stroke(0, 1);
        Check.due("in the bag, too", x.thing(0, 4), 4);
        x.stuff(0, 0);
        Check.due("in a bed, too", x.thing(0, 4), 4);
        x.cut(1);
        Check.due("cut ones are lost", x.thing(0, 4), 2);
        x.snag(1, 0);
        Check.due("one more", x.thing(0, 4), 3);
        Check.due("b", x.thing(1, 4), 1);
    }

    private static void hardest() {
        Check.says("HARDEST: the PERSON whose KNOTS hold most in all (of like ones the first); NONE: there are no PERSONS");
        Check.due("without PERSONS", new CombedOut().hardest(), -1);
        Check.due("all bare", persons("", "", "").hardest(), 0);
        Check.due("like ones", persons("", "ab", "ba", "a").hardest(), 1);
        Check.due("the last", persons("a", "ab", "abc").hardest(), 2);
        CombedOut x = Check.of("thing a 1 1;thing b 9 1;person p 9;person q 9;" + "caught p a;".repeat(8) + "caught q b;");
        Check.due("9 ahead of eight times 1", x.hardest(), 1);
    }

    private static void mean() {
        Check.says("MEAN of a PERSON: what his KNOTS hold in all by how many they are; 0 above, 1 below, in least terms");
        String things = "thing a 1 1;thing b 2 1;thing c 9 1;person p 99;";
        String[] rows = {"a", "bb", "ab", "aba", "abb", "abab", "cacacaca", "acacac", "aaaaaaaa", "bababa", "cccccccc", "abac"};
        int[] above = {1, 4, 3, 4, 5, 3, 5, 5, 8, 3, 72, 13};
        int[] below = {1, 1, 2, 3, 2, 2, 1, 1, 1, 2, 1, 4};
        for (int i = 0; i < rows.length; i++) {
            StringBuilder text = new StringBuilder(things);
            for (char t : rows[i].toCharArray()) {
                text.append("caught p ").append(t).append(';');
            }
            CombedOut x = Check.of(text.toString());
            Check.due("above of " + rows[i], Check.mean(x, 0, 0), above[i]);
            Check.due("below of " + rows[i], Check.mean(x, 0, 1), below[i]);
        }
    }

    private static void meanThrows() {
        Check.says("NoSuchElementException: he has no KNOTS, no such ones");
        CombedOut x = persons("a", "");
        Check.due("no KNOTS", Check.mean(x, 1, 0), Check.THROWS);
        Check.due("no KNOTS, below", Check.mean(x, 1, 1), Check.THROWS);
        Check.due("mean(2, 0)", Check.mean(x, 2, 0), Check.THROWS);
        Check.due("mean(0, 2)", Check.mean(x, 0, 2), Check.THROWS);
        for (int far : FAR) {
            Check.due("mean(" + far + ", 0)", Check.mean(x, far, 0), Check.THROWS);
            Check.due("mean(0, " + far + ")", Check.mean(x, 0, far), Check.THROWS);
        }
        Check.due("mean(0, 0)", Check.mean(x, 0, 0), 1);
    }

    private static void tag() {
        Check.says("TAG of a PERSON: his NAME, then KNOT by KNOT from the crown on a blank, its THING's NAME, "
            + "and how many there are as a digit, if more than one");
        CombedOut x = Check.of("thing a 1 1;thing tramway 1 1;person ann 9;person georgia 9;person c 9;person d 9;"
            + "caught ann a;caught ann a;caught ann tramway;caught ann a;" + "caught georgia tramway;".repeat(8)
            + "caught c a;caught c tramway;caught c a;caught c tramway;caught c tramway;caught d a;");
        Check.due("ann", Check.tag(x, 0), "ann a2 tramway a");
        Check.due("georgia", Check.tag(x, 1), "georgia tramway8");
        Check.due("c", Check.tag(x, 2), "c a tramway a tramway2");
        Check.due("d", Check.tag(x, 3), "d a");
        Check.says("TAG of a PERSON: how many bytes; NONE: no such one");
        Check.due("tag(3)", x.tag(3), 3);
        Check.due("tag(0)", x.tag(0), 16);
        Check.due("tag(4)", x.tag(4), -1);
        for (int far : FAR) {
            Check.due("tag(" + far + ")", x.tag(far), -1);
        }
        Check.due("NONE leaves the latest TAG", x.byteAt(15), 'a');
        CombedOut y = Check.of("thing abcdefg 1 1;thing hijklmn 1 1;person opqrstu 1;");
        for (int i = 0; i < 8; i++) {
            y.snag(0, i % 2);
        }
        Check.due("the longest", y.tag(0), 71);
        Check.due("its last byte", y.byteAt(70), 'n');
        Check.due("none behind it", y.byteAt(71), -1);
    }

    private static void tagBare() {
        Check.says("' bare' instead, if there is none");
        CombedOut x = Check.of("thing a 1 1;person p 9;person georgia 9;caught p a;");
        Check.due("georgia", Check.tag(x, 1), "georgia bare");
        Check.due("p", Check.tag(x, 0), "p a");
        x.cut(0);
        Check.due("p then", Check.tag(x, 0), "p bare");
    }

    private static void byteAt() {
        Check.says("Byte i of the latest TAG; NONE: none such");
        CombedOut x = Check.of("thing a 1 1;person p 9;person georgia 9;caught p a;caught p a;");
        Check.due("ahead of any", x.byteAt(0), -1);
        x.tag(1);
        x.tag(0);
        Check.due("byteAt(0)", x.byteAt(0), 'p');
        Check.due("byteAt(1)", x.byteAt(1), ' ');
        Check.due("byteAt(2)", x.byteAt(2), 'a');
        Check.due("byteAt(3)", x.byteAt(3), '2');
        Check.due("byteAt(4), though a longer TAG was ahead", x.byteAt(4), -1);
        for (int far : FAR) {
            Check.due("byteAt(" + far + ")", x.byteAt(far), -1);
        }
        x.snag(0, 0);
        Check.due("acts leave it", x.byteAt(3), '2');
        x.tag(0);
        Check.due("the latest", x.byteAt(3), '3');
    }
}
