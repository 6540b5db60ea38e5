/** Promises 34 and 35, and 5 of SENTENCES. */
public final class SentenceTest {
    private static final String TEXT = "thing a 2 3;thing b 3 1;person p 12;person q 3;person r 30;person s 9;bed x 4;comb 8;"
        + "caught p a;caught p b;caught p b;caught q b;caught s b;" + "caught r a;".repeat(8);

    public static void main(String[] args) {
        faults();
        limits();
        counts();
        truths();
        binding();
        sayingNow();
        staying();
        Check.finish();
    }

    private static void bad(String text, int place, int kind) {
        CombedOut x = Check.of(TEXT);
        Check.due("sentence '" + text + "'", Check.sentence(x, text), -1 - place);
        Check.due("sentence '" + text + "', fault()", x.fault(), kind);
        Check.due("the tape", x.count(5), 0);
        Check.due("said(-1)", x.said(-1), -1);
    }

    private static void faults() {
        bad("", 0, 1);
        bad("  ", 2, 1);
        bad(";", 0, 1);
        bad("bare;", 4, 1);
        bad("bare bare", 5, 1);
        bad("bare )", 5, 1);
        bad("(bare", 5, 1);
        bad("(bare;", 5, 1);
        bad("()", 1, 1);
        bad("bare and", 8, 1);
        bad("bare and or nest", 9, 1);
        bad("or bare", 0, 1);
        bad("not", 3, 1);
        bad("not and", 4, 1);
        bad("p", 0, 1);
        bad("thing", 0, 1);
        bad("5", 0, 1);
        bad("has", 3, 1);
        bad("has p", 4, 3);
        bad("has x", 4, 3);
        bad("has c", 4, 3);
        bad("has bare", 4, 1);
        bad("has 1", 4, 1);
        bad("like a", 5, 3);
        bad("like t", 5, 3);
        bad("like like", 5, 1);
        bad("caught 1", 7, 1);
        bad("caught ( 1", 7, 1);
        bad("caught <", 8, 1);
        bad("caught < a", 9, 1);
        bad("caught < 1000", 9, 1);
        bad("caught < = 1", 9, 1);
        bad("bare.", 4, 1);
        bad("number = 1 2", 11, 1);
        bad("stroke > 1", 0, 1);
    }

    private static void limits() {
        CombedOut x = Check.of(TEXT);
        Check.due("20 ONES", Check.sentence(x, "bare" + " or bare".repeat(19)), 20);
        bad("bare" + " or bare".repeat(20), 4 + 19 * 8 + 4, 4);
        bad("bare" + " or bare".repeat(19) + " or has", 4 + 19 * 8 + 4, 4);
        bad("bare" + " or bare".repeat(19) + " or", 4 + 19 * 8 + 3, 1);
        bad("bare" + " or bare".repeat(19) + " or p", 4 + 19 * 8 + 4, 1);
        bad("bare" + " or bare".repeat(18) + " or (bare)", 4 + 18 * 8 + 5, 4);
        Check.due("8 within", Check.sentence(x, "not ".repeat(7) + "bare"), 8);
        bad("not ".repeat(8) + "bare", 32, 4);
        bad("not ".repeat(8) + "(bare", 32, 4);
        bad("not ".repeat(8) + "oh", 32, 1);
        Check.due("8 brackets", Check.sentence(x, "(".repeat(7) + "bare" + ")".repeat(7)), 8);
        bad("(".repeat(8) + "bare", 8, 4);
        Check.due("not and brackets", Check.sentence(x, "not(not(not(not bare)))and not(not(not(not nest)))"), 16);
        bad("nest or not(not(not(not(not bare))))", 24, 4);
        Check.due("200 bytes", Check.sentence(x, "bare" + " ".repeat(196)), 1);
        bad("bare" + " ".repeat(197), 200, 1);
        bad(" ".repeat(198) + "bare", 200, 1);
        bad(" ".repeat(198) + "bares", 198, 1);
        bad(" ".repeat(200) + "oh", 200, 1);
        bad(" ".repeat(195) + "has c", 199, 3);
    }

    private static void counts() {
        CombedOut x = Check.of(TEXT);
        Check.due("ONES", Check.sentence(x, "not(bare or nest)and has a"), 5);
        Check.due("without blanks", Check.sentence(x, "caught<3and knots>1"), -1 - 7);
        Check.due("with some", Check.sentence(x, "caught<3 and knots>1"), 2);
        Check.due("fault()", x.fault(), 0);
        Check.due("the tape", x.count(5), 0);
    }

    private static void said(CombedOut x, String text, int... who) {
        Check.sentence(x, text);
        Check.due("'" + text + "' fault()", x.fault(), 0);
        Check.due("'" + text + "' said(-1)", x.said(-1), who.length);
        for (int k = 0; k < who.length; k++) {
            Check.due("'" + text + "' said(" + k + ")", x.said(k), who[k]);
        }
        Check.due("'" + text + "' said of one more", x.said(who.length), -1);
        Check.due("'" + text + "' said(-2)", x.said(-2), -1);
        Check.due("'" + text + "' said(max)", x.said(Integer.MAX_VALUE), -1);
    }

    private static void truths() {
        CombedOut x = Check.of(TEXT);
        said(x, "bare");
        said(x, "not bare", 0, 1, 2, 3);
        said(x, "nest", 2);
        said(x, "sore");
        said(x, "has a", 0, 2);
        said(x, "has b", 0, 1, 3);
        said(x, "like q", 1, 3);
        said(x, "like p", 0);
        said(x, "caught > 1", 0, 2);
        said(x, "caught = 1", 1, 3);
        said(x, "caught < 8", 0, 1, 3);
        said(x, "knots = 2", 0);
        said(x, "knots > 0", 0, 1, 2, 3);
        said(x, "pain = 0", 0, 1, 2, 3);
        said(x, "number > 1", 2, 3);
        said(x, "number < 1", 0);
        said(x, "number = 2", 2);
        said(x, "number < 999", 0, 1, 2, 3);
        x.stroke(1, 3);
        x.stroke(0, 6);
        said(x, "sore", 1);
        said(x, "bare", 1);
        said(x, "pain > 3", 0);
        said(x, "pain = 3", 1);
        said(x, "pain < 3", 2, 3);
    }

    private static void binding() {
        CombedOut x = Check.of(TEXT);
        said(x, "number = 0 or number = 1 and has a", 0);
        said(x, "has a and number = 0 or number = 1", 0, 1);
        said(x, "(number = 0 or number = 1)and has a", 0);
        said(x, "(number = 0 or number = 1)and has b", 0, 1);
        said(x, "number = 3 or number = 0 and nest or number = 1", 1, 3);
        said(x, "not number = 0 and has a", 2);
        said(x, "not(number = 0 and has a)", 1, 2, 3);
        said(x, "not not nest", 2);
        said(x, "not(not(nest))or like s and not number = 3", 1, 2);
        said(x, "number = 0 or number = 1 or number = 2 and bare or number = 3 and has b", 0, 1, 3);
    }

    private static void sayingNow() {
        CombedOut x = Check.of(TEXT);
        Check.sentence(x, "bare");
        Check.due("nobody", x.said(-1), 0);
        x.cut(3);
        Check.due("s", x.said(0), 3);
        x.undo();
        Check.due("nobody again", x.said(-1), 0);
        CombedOut y = new CombedOut();
        Check.due("of no PERSONS", Check.sentence(y, "bare"), 1);
        Check.due("none", y.said(-1), 0);
        Check.due("none such", y.said(0), -1);
    }

    private static void staying() {
        CombedOut x = Check.of(TEXT);
        Check.sentence(x, "nest");
        Check.sentence(x, "not nest or");
        Check.due("fault()", x.fault(), 1);
        Check.due("it stays", x.said(0), 2);
        Check.due("of one", x.said(-1), 1);
    }
}
