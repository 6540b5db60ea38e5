/** "Terms", TOKENS and FAULTS: a test for each sentence that names an edge. */
public final class TokenEdgesTest {
    private static final String BASE = "thing t 1 1;person p 9;bed b 5;";
    private static final int N = BASE.length();
    private static final String[] WORDS = ("thing person caught daily bed comb stroke cut catches stuff day "
        + "or and not bare nest sore has like knots pain number").split(" ");

    public static void main(String[] args) {
        blanks();
        blanksOrNot();
        words();
        numbers();
        signs();
        noPoint();
        goesOn();
        fault1();
        fault1AtTheEnd();
        fault1AtTheMostBytes();
        readWhole();
        aFaultAhead();
        fault2();
        fault3ToldTwice();
        fault3NotTold();
        fault3OfAnotherSort();
        fault3Comb();
        fault4();
        fault4Caught();
        fault4Line();
        fault4One();
        fault4Within();
        theFirstAlongTheText();
        theLeastOfOneToken();
        noNames();
        Check.finish();
    }

    private static void quarter(String text, String due) {
        Check.due("quarter '" + text + "'", Check.quarterTold(text), due);
    }

    private static void book(String text, String due) {
        Check.due("book '" + text + "'", Check.bookTold(BASE, text), due);
    }

    private static void sentence(String text, String due) {
        Check.due("sentence '" + text + "'", Check.sentenceTold(BASE, text), due);
    }

    private static void blanks() {
        Check.says("with blanks (32, 10) between them");
        quarter(" \n comb \n\n 5\n ;\n", "1 LINES");
        book("\n day\n1 ; ", "fine");
        sentence("\nnot\nbare\n", "2 ONES");
        for (int c = 0; c < 256; c++) {
            if (c != ' ' && c != '\n') {
                quarter("comb 5;" + (char) c, "1 at 7");
            }
        }
        for (char c : new char[] {0, 9, 11, 12, 13, 31, 33, 160}) {
            book(c + "day 1;", "1 at 0");
            sentence("bare" + c, "1 at 4");
        }
    }

    private static void blanksOrNot() {
        Check.says("or not");
        quarter("comb 5;comb", "3 at 7");
        quarter(BASE + "caught p t;", "4 LINES");
        sentence("not(bare)and(knots>1)or(caught=0)", "7 ONES");
        quarter("comb5;", "1 at 0");
        quarter("thing t 11;", "2 at 8");
    }

    private static void words() {
        Check.says("WORDS: small letters, 1 to 7");
        quarter("thing a 1 1;", "1 LINES");
        quarter("thing z 1 1;", "1 LINES");
        quarter("thing abcdefg 1 1;", "1 LINES");
        quarter("thing tuvwxyz 1 1;", "1 LINES");
        quarter("thing abcdefgh 1 1;", "1 at 6");
        quarter("thing abcdefghi 1 1;", "1 at 6");
        quarter("thing A 1 1;", "1 at 6");
        quarter("thing aB 1 1;", "1 at 7");
        quarter("thing ` 1 1;", "1 at 6");
        quarter("thing { 1 1;", "1 at 6");
        quarter("thing a` 1 1;", "1 at 7");
        quarter("thing a{ 1 1;", "1 at 7");
        quarter("thing " + (char) 233 + " 1 1;", "1 at 6");
        // Told apart to the last letter.
        quarter("thing abcdefg 1 1;thing abcdefh 1 1;thing bcdefg 1 1;", "3 LINES");
        quarter("thing abcdefg 1 1;thing abcdefg 1 1;", "3 at 24");
    }

    private static void numbers() {
        Check.says("NUMBERS: 1 to 3 digits");
        quarter("comb 1;", "1 LINES");
        quarter("comb 9;", "1 LINES");
        quarter("comb 01;", "1 LINES");
        quarter("comb 009;", "1 LINES");
        quarter("comb 000;", "2 at 5");
        quarter("comb 999;", "2 at 5");
        quarter("comb 0009;", "1 at 5");
        quarter("comb 1000;", "1 at 5");
        quarter("comb 99999999999;", "1 at 5");
        quarter("comb /;", "1 at 5");
        quarter("comb :;", "1 at 5");
        quarter("comb 1/;", "1 at 6");
        quarter("comb 1:;", "1 at 6");
        quarter("comb -1;", "1 at 5");
        quarter("comb +1;", "1 at 5");
        CombedOut x = Check.of("comb 007;");
        Check.due("comb of 007", x.count(4), 7);
        sentence("number = 0", "1 ONES");
        sentence("number = 999", "1 ONES");
        sentence("number = 1000", "1 at 9");
    }

    private static void signs() {
        Check.says("; < = > ( )");
        sentence("(caught < 1 or caught = 1 or caught > 1)", "4 ONES");
        quarter("comb 5;", "1 LINES");
        for (char c : "!\"#$%&'*+,-./:?@[]^_{|}~".toCharArray()) {
            quarter("comb 5" + c, "1 at 6");
            sentence("caught " + c + " 1", "1 at 7");
        }
        for (char c : "<=>()".toCharArray()) {
            quarter("comb 5" + c, "1 at 6");
            book("day 1" + c, "1 at 5");
        }
        for (char c : ";()".toCharArray()) {
            sentence("caught " + c + " 1", "1 at 7");
        }
    }

    private static void noPoint() {
        Check.says("a point is in no LINE and no SENTENCE");
        quarter(".", "1 at 0");
        quarter("comb 5.", "1 at 6");
        book("day 1.", "1 at 5");
        sentence("bare.", "1 at 4");
    }

    private static void goesOn() {
        Check.says("A WORD, NUMBER goes on as long as small letters and digits do; what is not as told is no TOKEN");
        quarter("comb 5a;", "1 at 5");
        quarter("comb 5 a;", "1 at 7");
        quarter("comb5 5;", "1 at 0");
        quarter("thing t1 1 1;", "1 at 6");
        quarter("thing 1t 1 1;", "1 at 6");
        quarter("thing abcdefg1 1 1;", "1 at 6");
        quarter("comb 123a;", "1 at 5");
        quarter("comb 12a4;", "1 at 5");
        sentence("caught<3and bare", "1 at 7");
        sentence("bare1", "1 at 0");
        book("p cut1;", "1 at 2");
        book("day 1p cut;", "1 at 4");
    }

    private static void fault1() {
        Check.says("1 no TOKEN, or one that can't come (at it");
        quarter("!", "1 at 0");
        quarter("comb 5;  !", "1 at 9");
        quarter(";", "1 at 0");
        quarter("5;", "1 at 0");
        quarter("t;", "1 at 0");
        quarter("comb comb;", "1 at 5");
        quarter("comb ;", "1 at 5");
        quarter("comb 5 5;", "1 at 7");
        quarter("comb 5;;", "1 at 7");
        quarter("thing 1 1;", "1 at 6");
        quarter("thing t ;", "1 at 8");
        quarter("thing t 1 ;", "1 at 10");
        quarter("thing t 1 t;", "1 at 10");
        quarter("person p p;", "1 at 9");
        quarter("bed b b;", "1 at 6");
        quarter(BASE + "caught 1 t;", "1 at " + (N + 7));
        quarter(BASE + "caught p 1;", "1 at " + (N + 9));
        quarter(BASE + "caught p t 1;", "1 at " + (N + 11));
        quarter(BASE + "daily p t t;", "1 at " + (N + 10));
        book("p;", "1 at 1");
        book("p p;", "1 at 2");
        book("p day 1;", "1 at 2");
        book("p cut 1;", "1 at 6");
        book("day;", "1 at 3");
        book("day p;", "1 at 4");
        book("stuff;", "1 at 5");
        book("stuff b;", "1 at 7");
        book("comb 5;", "1 at 0");
        sentence("p", "1 at 0");
        sentence("and bare", "1 at 0");
        sentence("bare nest", "1 at 5");
        sentence("bare)", "1 at 4");
        sentence("()", "1 at 1");
        sentence("(bare;", "1 at 5");
        sentence("bare;", "1 at 4");
        sentence("has;", "1 at 3");
        sentence("knots 1", "1 at 6");
        sentence("knots = p", "1 at 8");
        sentence("not or bare", "1 at 4");
    }

    private static void fault1AtTheEnd() {
        Check.says("the end: how many bytes there are");
        quarter("comb", "1 at 4");
        quarter("comb 5", "1 at 6");
        quarter("comb 5  ", "1 at 8");
        quarter("comb 5;thing", "1 at 12");
        quarter("thing t", "1 at 7");
        quarter(BASE + "caught \n", "1 at " + (N + 8));
        book("day", "1 at 3");
        book("day 1", "1 at 5");
        book("p", "1 at 1");
        book("p stroke \n\n", "1 at 11");
        sentence("", "1 at 0");
        sentence("\n", "1 at 1");
        sentence("(bare", "1 at 5");
        sentence("bare or ", "1 at 8");
        sentence("not", "1 at 3");
        sentence("caught <", "1 at 8");
        quarter(" ".repeat(896) + "comb", "1 at 900");
        book(" ".repeat(397) + "day", "1 at 400");
        sentence(" ".repeat(197) + "not", "1 at 200");
    }

    private static void fault1AtTheMostBytes() {
        Check.says("the most bytes told, if there are more");
        quarter("comb 5;" + " ".repeat(893), "1 LINES");
        quarter("comb 5;" + " ".repeat(894), "1 at 900");
        quarter("comb 5;" + " ".repeat(933), "1 at 900");
        quarter(" ".repeat(900), "0 LINES");
        quarter(" ".repeat(901), "1 at 900");
        quarter(" ".repeat(900) + "!", "1 at 900");
        book(" ".repeat(394) + "day 1;", "fine");
        book(" ".repeat(394) + "day 1; ", "1 at 400");
        book(" ".repeat(400), "fine");
        book(" ".repeat(401), "1 at 400");
        sentence("bare" + " ".repeat(196), "1 ONES");
        sentence("bare" + " ".repeat(197), "1 at 200");
        sentence(" ".repeat(201), "1 at 200");
        sentence(" ".repeat(200), "1 at 200");
        sentence("bare" + " ".repeat(196) + "and nest", "1 at 200");
    }

    private static void readWhole() {
        Check.says("TOKENS that begin ahead of it are read whole");
        // Read as 'comb' and not as 'c': what comes behind it is too far.
        quarter(" ".repeat(899) + "comb 5;", "1 at 900");
        quarter(" ".repeat(899) + "come 5;", "1 at 899");
        quarter(" ".repeat(893) + "thing abcdefg 1 1;", "1 at 900");
        quarter(" ".repeat(893) + "thing abcdefgh 1 1;", "1 at 899");
        quarter(" ".repeat(894) + "comb 20;", "1 at 900");
        quarter(" ".repeat(894) + "comb 21;", "2 at 899");
        quarter(" ".repeat(894) + "comb 2a;", "1 at 899");
        quarter(" ".repeat(895) + "comb 21;", "1 at 900");
        quarter("thing t 1 1;" + " ".repeat(881) + "thing to 1 1;", "1 at 900");
        book(" ".repeat(395) + "day 60;", "1 at 400");
        book(" ".repeat(395) + "day 61;", "2 at 399");
        book(" ".repeat(399) + "pp cut;", "3 at 399");
        sentence(" ".repeat(199) + "bare", "1 at 200");
        sentence(" ".repeat(199) + "bard", "1 at 199");
        sentence(" ".repeat(195) + "has tt", "3 at 199");
        sentence(" ".repeat(195) + "has t ", "1 at 200");
    }

    private static void aFaultAhead() {
        Check.says("and no FAULT is ahead");
        quarter("!" + " ".repeat(939), "1 at 0");
        quarter("comb 21;" + " ".repeat(932), "2 at 5");
        quarter("comb 5;comb 5;" + " ".repeat(926), "3 at 7");
        quarter(" ".repeat(899) + "!" + " ".repeat(40), "1 at 899");
        book("day 61;" + " ".repeat(500), "2 at 4");
        book(" ".repeat(399) + ";;", "1 at 399");
        sentence("has q" + " ".repeat(300), "3 at 4");
        sentence(" ".repeat(199) + "((", "1 at 200");
        sentence(" ".repeat(199) + "))", "1 at 199");
    }

    private static void fault2() {
        Check.says("2 a NUMBER that is not as told (at it)");
        quarter("thing t 0 10;", "2 at 8");
        quarter("thing t 1 10;", "2 at 10");
        quarter("person  p  100;", "2 at 11");
        quarter("bed b\n0;", "2 at 6");
        quarter("comb 21 ;", "2 at 5");
        quarter(BASE + "daily p t 10;", "2 at " + (N + 10));
        book("p stroke 0;", "2 at 9");
        book("p stroke 21;", "2 at 9");
        book("day 0;", "2 at 4");
        book("day 61;", "2 at 4");
        book("p cut;day 61;", "2 at 10");
    }

    private static void fault3ToldTwice() {
        Check.says("3 a NAME told twice (at the WORD)");
        String[] again = {"t", "p", "b"};
        for (String name : again) {
            quarter(BASE + "thing " + name + " 1 1;", "3 at " + (N + 6));
            quarter(BASE + "person " + name + " 1;", "3 at " + (N + 7));
            quarter(BASE + "bed " + name + " 1;", "3 at " + (N + 4));
        }
        quarter("thing t 1 1;thing u 1 1;thing u 1 1;", "3 at 30");
        quarter("bed c 1;thing c 1 1;", "3 at 14");
    }

    private static void fault3NotTold() {
        Check.says("3 a NAME not told (at the WORD)");
        quarter(BASE + "caught q t;", "3 at " + (N + 7));
        quarter(BASE + "caught p u;", "3 at " + (N + 9));
        quarter(BASE + "daily q t 1;", "3 at " + (N + 6));
        quarter(BASE + "daily p u 1;", "3 at " + (N + 8));
        // Told behind it is not told.
        quarter("thing t 1 1;caught p t;person p 9;", "3 at 19");
        quarter("person p 9;daily p t 1;thing t 1 1;", "3 at 19");
        book("q cut;", "3 at 0");
        book("p catches u;", "3 at 10");
        book("stuff c t;", "3 at 6");
        book("stuff b u;", "3 at 8");
        sentence("has u", "3 at 4");
        sentence("like q", "3 at 5");
        // One that was told in an earlier QUARTER, or in one with a FAULT, is not told now.
        CombedOut x = Check.of("thing u 1 1;person q 9;");
        Check.quarter(x, BASE);
        Check.due("of the QUARTER ahead", Check.sentence(x, "has u"), -1 - 4);
        Check.due("its kind", x.fault(), 3);
        Check.quarter(x, "thing v 1 1;person r 9;oh");
        Check.due("of a QUARTER with a FAULT", Check.book(x, 0, "r cut;"), -2);
        Check.due("its kind", x.fault(), 3);
    }

    private static void fault3OfAnotherSort() {
        Check.says("3 a NAME of another sort (at the WORD)");
        quarter(BASE + "caught t t;", "3 at " + (N + 7));
        quarter(BASE + "caught b t;", "3 at " + (N + 7));
        quarter(BASE + "caught p p;", "3 at " + (N + 9));
        quarter(BASE + "caught p b;", "3 at " + (N + 9));
        quarter(BASE + "daily t t 1;", "3 at " + (N + 6));
        quarter(BASE + "daily b t 1;", "3 at " + (N + 6));
        quarter(BASE + "daily p p 1;", "3 at " + (N + 8));
        quarter(BASE + "daily p b 1;", "3 at " + (N + 8));
        book("t cut;", "3 at 0");
        book("b cut;", "3 at 0");
        book("p catches p;", "3 at 10");
        book("p catches b;", "3 at 10");
        book("stuff t t;", "3 at 6");
        book("stuff p t;", "3 at 6");
        book("stuff b b;", "3 at 8");
        book("stuff b p;", "3 at 8");
        sentence("has p", "3 at 4");
        sentence("has b", "3 at 4");
        sentence("like t", "3 at 5");
        sentence("like b", "3 at 5");
    }

    private static void fault3Comb() {
        Check.says("3 'comb' told again (at the WORD)");
        quarter("comb 5; comb 5;", "3 at 8");
        quarter("comb 9;comb 9;", "3 at 7");
        quarter("comb 5;comb", "3 at 7");
        quarter("comb 5;comb 0;", "3 at 7");
        quarter("comb 5;comb !", "3 at 7");
        // A 'comb' of a text ahead is no matter.
        CombedOut x = Check.of("comb 5;");
        Check.due("another text", Check.quarter(x, "comb 6;"), 1);
        Check.due("its comb", x.count(4), 6);
    }

    private static String many(String before, String after, int n) {
        StringBuilder text = new StringBuilder();
        for (int i = 0; i < n; i++) {
            text.append(before).append((char) ('a' + i)).append(after);
        }
        return text.toString();
    }

    private static void fault4() {
        Check.says("4 one more than there may be of a sort");
        String things = many("thing ", " 1 1;", 8);
        quarter(things, "8 LINES");
        quarter(things + " thing i 1 1;", "4 at " + (things.length() + 1));
        quarter(things + "thing", "4 at " + things.length());
        quarter(things + "thing a 0 0;", "4 at " + things.length());
        String persons = many("person ", " 1;", 6);
        quarter(persons, "6 LINES");
        quarter(persons + "person g 1;", "4 at " + persons.length());
        quarter(persons + "person !", "4 at " + persons.length());
        String beds = many("bed ", " 1;", 4);
        quarter(beds, "4 LINES");
        quarter(beds + "bed e 1;", "4 at " + beds.length());
        quarter(beds + "bed 1 1;", "4 at " + beds.length());
        String daily = BASE + "daily p t 1;".repeat(12);
        quarter(daily, "15 LINES");
        quarter(daily + "daily p t 1;", "4 at " + daily.length());
        quarter(daily + "daily q t 1;", "4 at " + daily.length());
        String two = "thing t 1 1;person p 9;person q 9;" + "daily p t 1;".repeat(6) + "daily q t 1;".repeat(6);
        quarter(two, "15 LINES");
        quarter(two + "daily p t 1;", "4 at " + two.length());
        // All sorts may be full at once.
        quarter(things + many("person p", " 9;", 6) + many("bed b", " 9;", 4) + "daily pa a 1;".repeat(12), "30 LINES");
    }

    private static void fault4Caught() {
        Check.says("4 (a 'caught': at the PERSON)");
        String eight = BASE + "caught p t;".repeat(8);
        quarter(eight, "11 LINES");
        quarter(eight + "caught p t;", "4 at " + (eight.length() + 7));
        quarter(eight + "caught  p", "4 at " + (eight.length() + 8));
        quarter(eight + "caught p u;", "4 at " + (eight.length() + 7));
        quarter(eight + "caught !", "1 at " + (eight.length() + 7));
        quarter(eight + "person q 9;" + "caught q t;".repeat(8), "20 LINES");
    }

    private static void fault4Line() {
        Check.says("4 a 41st LINE of a BOOK (at the LINE's first WORD)");
        String forty = "day 1;".repeat(40);
        book(forty, "fine");
        book(forty + "day 1;", "4 at 240");
        book(forty + " \np cut;", "4 at 242");
        book(forty + "stuff b t;", "4 at 240");
        book(forty + "p", "4 at 240");
        book(forty + "day 61;", "4 at 240");
        book(forty + " ", "fine");
    }

    private static void fault4One() {
        Check.says("4 a 21st ONE (at its first TOKEN)");
        String twenty = "bare" + " or bare".repeat(19);
        sentence(twenty, "20 ONES");
        int at = twenty.length() + 4;
        for (String one : new String[] {"bare", "nest", "sore", "has t", "like p", "caught", "knots", "pain", "number",
                "not", "(", "has 1"}) {
            sentence(twenty + " or " + one, "4 at " + at);
        }
        sentence("bare" + " or bare".repeat(18) + " or not bare", "4 at " + (at - 4));
        sentence("bare" + " or bare".repeat(18) + " or (bare)", "4 at " + (at - 7));
        sentence("bare" + " and not bare".repeat(9) + " or nest", "20 ONES");
    }

    private static void fault4Within() {
        Check.says("4 a ninth within (at its first TOKEN)");
        sentence("not ".repeat(7) + "bare", "8 ONES");
        sentence("not ".repeat(8) + "bare", "4 at 32");
        sentence("not ".repeat(8) + "has 1", "4 at 32");
        sentence("not ".repeat(9) + "bare", "4 at 32");
        sentence("(".repeat(7) + "bare" + ")".repeat(7), "8 ONES");
        sentence("(".repeat(8) + "bare" + ")".repeat(8), "4 at 8");
        sentence("(".repeat(9) + "bare", "4 at 8");
        sentence("(not ".repeat(3) + "(bare)" + ")".repeat(3), "8 ONES");
        sentence("(not ".repeat(4) + "bare", "4 at 20");
        // Within one another, not in all: behind a bracket it is as ahead of it.
        sentence("(".repeat(7) + "bare" + ")".repeat(7) + "and " + "(".repeat(7) + "bare" + ")".repeat(7), "16 ONES");
        sentence("(".repeat(7) + "bare or nest and sore" + ")".repeat(7), "10 ONES");
    }

    private static void theFirstAlongTheText() {
        Check.says("FAULTS, the first along the text");
        quarter("thing t 0 10;comb", "2 at 8");
        quarter("thing t 1 1;thing t 0 0;", "3 at 18");
        quarter("comb 0;!", "2 at 5");
        quarter("thing 1 0 0;", "1 at 6");
        book("day 61;q cut;", "2 at 4");
        book("q stroke 99;", "3 at 0");
        sentence("has u and like q", "3 at 4");
        sentence("like q and !", "3 at 5");
    }

    private static void theLeastOfOneToken() {
        Check.says("of one TOKEN the least");
        String eight = BASE + "caught p t;".repeat(8);
        quarter(eight + "caught q t;", "3 at " + (eight.length() + 7));
        quarter(eight + "caught t t;", "3 at " + (eight.length() + 7));
        quarter(eight + "caught 9 t;", "1 at " + (eight.length() + 7));
        String forty = "day 1;".repeat(40);
        book(forty + "q cut;", "3 at 240");
        book(forty + "t cut;", "3 at 240");
        book(forty + "cut;", "1 at 240");
        book(forty + ";", "1 at 240");
        book(forty + "!", "1 at 240");
        String twenty = "bare" + " or bare".repeat(19);
        sentence(twenty + " or oh", "1 at " + (twenty.length() + 4));
        sentence(twenty + " or", "1 at " + (twenty.length() + 3));
        sentence(twenty + " or )", "1 at " + (twenty.length() + 4));
        sentence("not ".repeat(8) + "oh", "1 at 32");
        sentence("not ".repeat(8), "1 at 32");
        sentence("(".repeat(8) + ")", "1 at 8");
    }

    private static void noNames() {
        Check.says("NAME: a WORD, none of those told here, in a BOOK or a SENTENCE");
        for (String word : WORDS) {
            quarter("thing " + word + " 1 1;", "1 at 6");
            quarter("person " + word + " 1;", "1 at 7");
            quarter("bed " + word + " 1;", "1 at 4");
            quarter(BASE + "caught " + word + " t;", "1 at " + (N + 7));
            quarter(BASE + "daily p " + word + " 1;", "1 at " + (N + 8));
            book("p catches " + word + ";", "1 at 10");
            book("stuff " + word + " t;", "1 at 6");
            sentence("has " + word, "1 at 4");
            sentence("like " + word, "1 at 5");
            // A letter more or less, and it is a NAME.
            String longer = word.length() < 7 ? word + "x" : word.substring(0, 6) + "x";
            quarter("thing " + longer + " 1 1;", "1 LINES");
            quarter("thing " + word.substring(1) + " 1 1;", "1 LINES");
        }
        for (String name : new String[] {"hold", "spring", "bears", "every", "needs", "name", "line", "all", "one", "cond",
                "eased", "nests", "beds", "days", "bag", "tag"}) {
            quarter("thing " + name + " 1 1;", "1 LINES");
        }
    }
}
