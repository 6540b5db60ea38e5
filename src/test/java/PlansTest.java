/** Promises 17 to 24: EASE, NESTS, ROUND, BEDS, FITS, ASK. */
public final class PlansTest {
    public static void main(String[] args) {
        easing();
        nesting();
        rounds();
        roundTies();
        beds();
        bedTies();
        fitting();
        asking();
        askingWhatWasSo();
        Check.finish();
    }

    private static void easing() {
        CombedOut x = Check.of("thing a 3 1;thing b 2 1;person p 20;person q 20;person r 10;person s 20;comb 5;"
            + "caught p a;caught p b;caught p a;caught p b;caught p a;"
            + "caught q a;caught q a;caught r a;caught r b;caught r a;caught r b;caught r b;");
        Check.due("a b a b a by 5: ba ba a", x.ease(0), 3);
        Check.due("a knot above the comb", x.ease(1), -1);
        Check.due("more than r bears", x.ease(2), -1);
        Check.due("bare", x.ease(3), 0);
        Check.due("ease(4)", x.ease(4), -1);
        Check.due("ease(-1)", x.ease(-1), -1);
        x.stroke(0, 5);
        Check.due("a b a is left", Check.row(x, 0), "010");
        Check.due("two strokes more", x.ease(0), 2);
        x.snag(0, 1);
        x.snag(0, 1);
        x.snag(0, 0);
        Check.due("15 more, and 5 are borne: just bears it", x.ease(0), 4);
        x.snag(0, 1);
        Check.due("17 more are too many", x.ease(0), -1);
        x.days(1);
        Check.due("but not the next day", x.ease(0), 4);
    }

    private static void nesting() {
        CombedOut x = Check.of("thing a 3 1;person p 9;person q 9;person r 9;person s 9;person t 9;"
            + "daily p a 1;daily p a 2;daily q a 9;daily r a 9;caught r a;" + "caught s a;".repeat(8));
        Check.due("1 2 4 5 7 8", x.nests(0), 6);
        Check.due("72 days", x.nests(1), 72);
        Check.due("63 days", x.nests(2), 63);
        Check.due("it is one", x.nests(3), 0);
        Check.due("never", x.nests(4), -1);
        Check.due("nests(5)", x.nests(5), -1);
        Check.due("nests(-1)", x.nests(-1), -1);
        x.days(8);
        Check.due("64 more", x.nests(1), 64);
        x.days(1);
        x.cut(1);
        Check.due("72 from 9", x.nests(1), 72);
        x.days(8);
        Check.due("64 from 17", x.nests(1), 64);
        CombedOut y = Check.of("thing a 1 1;person p 9;daily p a 9;");
        for (int i = 0; i < 7; i++) {
            y.days(60);
            y.cut(0);
        }
        Check.due("DAY 400", y.now(0), 400);
        Check.due("it is no matter: 405 and seven times 9", y.nests(0), 5 + 63);
    }

    private static void rounds() {
        CombedOut x = Check.of("thing a 1 1;thing b 2 1;thing c 9 1;person p 20;person q 20;person r 8;person s 20;"
            + "person t 20;caught p a;caught q b;caught r c;caught t b;caught t a;");
        Check.due("round(-1)", x.round(-1), -1);
        Check.due("rounded() ahead of any", x.rounded(), -1);
        int[] many = {0, 1, 1, 2, 2, 2, 3, 3, 3};
        int[] who = {0, 1, 1, 3, 3, 3, 19, 19, 19};
        for (int n = 0; n < many.length; n++) {
            Check.due("round(" + n + ")", x.round(n), many[n]);
            Check.due("rounded()", x.rounded(), who[n]);
        }
        Check.due("r can't bear c", x.round(999), 3);
        Check.due("round(1000)", x.round(1000), -1);
        x.cut(0);
        Check.due("the latest stays", x.rounded(), 19);
        Check.due("bare ones are none", x.round(999), 2);
        Check.due("rounded() then", x.rounded(), 18);
        Check.quarter(x, "");
        Check.due("with a new QUARTER too", x.rounded(), 18);
    }

    private static void roundTies() {
        CombedOut x = Check.of("thing a 1 1;thing b 3 1;thing c 2 1;person p 20;person q 20;person r 20;person s 20;"
            + "caught p b;caught q c;caught r c;caught s a;");
        Check.due("round(3)", x.round(3), 2);
        Check.due("1 and 3 ahead of 2 and 3", x.rounded(), 10);
        Check.due("round(2)", x.round(2), 1);
        Check.due("the least in all", x.rounded(), 8);
        Check.due("round(6)", x.round(6), 3);
        Check.due("without p", x.rounded(), 14);
        x.stroke(3, 1);
        Check.due("round(5)", x.round(5), 2);
        Check.due("4 ahead of 5", x.rounded(), 6);
        x.stroke(0, 3);
        Check.due("round(3)", x.round(3), 1);
        Check.due("of like ones the least bits", x.rounded(), 2);
    }

    private static void beds() {
        CombedOut x = Check.of("thing a 1 5;thing b 1 3;thing c 1 2;person p 99;comb 20;bed w 5;bed x 5;bed y 6;bed z 99;"
            + "caught p a;caught p b;caught p b;caught p c;");
        Check.due("an empty bag", x.beds(), 0);
        Check.due("bedded()", x.bedded(), 0);
        x.stroke(0, 4);
        Check.due("5, 3 3, 2", x.beds(), 2);
        Check.due("w and x", x.bedded(), 3);
        x.stuff(2, 1);
        Check.due("w by a, x by b and c: or y", x.beds(), 2);
        Check.due("w and x again", x.bedded(), 3);
        x.stuff(2, 1);
        Check.due("y sleeps, too", x.beds(), 2);
        Check.due("w and y", x.bedded(), 5);
        x.stuff(3, 0);
        Check.due("y alone", x.beds(), 1);
        Check.due("bedded() of y", x.bedded(), 4);
        Check.quarter(x, "");
        Check.due("with a new QUARTER too", x.bedded(), 4);
        Check.due("no beds", x.beds(), 0);
        Check.due("bedded() of none", x.bedded(), 0);
    }

    private static void bedTies() {
        CombedOut x = Check.of("thing a 1 9;thing o 1 0;person p 99;comb 20;bed w 10;bed x 9;bed y 9;bed z 1;"
            + "caught p a;caught p o;caught p a;");
        x.stroke(0, 3);
        Check.due("two of three", x.beds(), 2);
        Check.due("x and y", x.bedded(), 6);
        x.stuff(3, 0);
        Check.due("z sleeps", x.beds(), 2);
        Check.due("x and z", x.bedded(), 10);
        x.undo();
        x.stuff(3, 1);
        Check.due("without spring", x.bed(3, 2), 0);
        Check.due("still x and y", x.beds(), 2);
        Check.due("bedded()", x.bedded(), 6);
    }

    private static void fitting() {
        CombedOut x = Check.of("thing a 1 1;thing b 1 1;person p 9;person q 9;person r 9;caught p a;caught p b;caught p a;"
            + "caught q b;caught q a;caught r a;");
        Check.due("a", Check.fits(x, 0), 7);
        Check.due("b a", Check.fits(x, 1, 0), 3);
        Check.due("a b a", Check.fits(x, 0, 1, 0), 1);
        Check.due("a a b a", Check.fits(x, 0, 0, 1, 0), 0);
        Check.due("b", Check.fits(x, 1), 0);
        Check.due("no THING", Check.fits(x, 2), -1);
        Check.due("255", Check.fits(x, 0, 255), -1);
        Check.due("none", Check.fits(x), -1);
        Check.due("eight", Check.fits(x, 0, 0, 0, 0, 0, 0, 0, 0), 0);
        Check.due("nine", Check.fits(x, 0, 0, 0, 0, 0, 0, 0, 0, 0), -1);
        Check.due("the tape is empty then", x.count(5), 0);
    }

    private static void asking() {
        CombedOut x = Check.of("thing a 1 1;thing b 1 1;thing c 1 1;person p 9;person q 9;person r 9;person s 9;"
            + "caught p a;caught p b;caught p a;caught q b;caught q b;caught q a;caught r c;caught r b;caught r a;"
            + "caught s b;caught s a;");
        Check.due("ahead of any", x.ask(), -1);
        Check.due("b a", Check.fits(x, 1, 0), 15);
        Check.due("layer 2 tells all", x.ask(), 2);
        Check.due("c b a", Check.fits(x, 2, 1, 0), 4);
        Check.due("of one the outside one", x.ask(), 0);
        Check.fits(x, 1, 0);
        Check.due("a fit of none", Check.fits(x, 2), 0);
        Check.due("leaves it", x.ask(), 2);
        Check.due("a fit of NONE", Check.fits(x, 3), -1);
        Check.due("leaves it, too", x.ask(), 2);
        CombedOut y = Check.of("thing a 1 1;thing b 1 1;person p 9;person q 9;" + "caught q b;" + "caught q a;".repeat(7)
            + "caught p a;" + "caught p a;".repeat(7));
        Check.fits(y, 0);
        Check.due("the crown of a NEST", y.ask(), 7);
    }

    private static void askingWhatWasSo() {
        CombedOut x = Check.of("thing a 1 1;thing b 1 1;person p 9;person q 9;person r 9;caught p a;caught q b;caught q a;caught r a;");
        Check.due("a", Check.fits(x, 0), 7);
        Check.due("b below, or nothing", x.ask(), 1);
        x.cut(0);
        x.cut(1);
        x.days(1);
        Check.due("as it was so then", x.ask(), 1);
        Check.quarter(x, "");
        Check.due("with a new QUARTER too", x.ask(), 1);
    }
}
