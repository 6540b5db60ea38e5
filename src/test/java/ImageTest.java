/** Promises 36 and 37: images. */
public final class ImageTest {
    private static final String TEXT = "thing a 2 3;thing b 3 1;person p 12;person q 30;bed x 4;comb 8;daily q a 1;"
        + "caught p a;caught p b;caught p b;";

    public static void main(String[] args) {
        places();
        allThatIsSo();
        whatStays();
        nothingCanBeUndone();
        Check.finish();
    }

    private static void places() {
        CombedOut x = new CombedOut();
        for (int k : new int[] {-1, 2, Integer.MAX_VALUE, Integer.MIN_VALUE}) {
            Check.due("image(" + k + ")", x.image(k), false);
            Check.due("restore(" + k + ")", x.restore(k), false);
        }
        Check.due("restore(0)", x.restore(0), false);
        Check.due("image(1)", x.image(1), true);
        Check.due("restore(0) still", x.restore(0), false);
        Check.due("restore(1)", x.restore(1), true);
    }

    private static void allThatIsSo() {
        CombedOut x = Check.of(TEXT);
        Check.sentence(x, "has b");
        x.stroke(0, 6);
        x.stuff(0, 1);
        x.days(2);
        x.stroke(0, 3);
        x.cut(1);
        x.image(0);
        Check.quarter(x, "thing z 1 1;person m 5;person n 6;person o 7;bed k 1;bed l 2;comb 20;");
        x.image(1);
        Check.due("no SENTENCE", x.said(-1), -1);
        Check.due("restore(0)", x.restore(0), true);
        int[] now = {2, 2, 0, 0, 2, 1, 2};
        for (int what = 0; what <= 6; what++) {
            Check.due("now(" + what + ")", x.now(what), now[what]);
        }
        int[] counts = {2, 2, 1, 1, 8};
        for (int what = 0; what <= 4; what++) {
            Check.due("count(" + what + ")", x.count(what), counts[what]);
        }
        Check.due("PAIN", Check.person(x, 0, 1), 3);
        Check.due("SPRING", x.bed(0, 1), 1);
        Check.due("things in it", x.bed(0, 3), 1);
        Check.due("STILL", x.thing(1, 4), 2);
        Check.due("TAG", Check.tag(x, 0), "p bare");
        Check.due("the SENTENCE", x.said(-1), 0);
        x.snag(1, 1);
        Check.due("is said", x.said(0), 1);
        Check.due("restore(1)", x.restore(1), true);
        Check.due("count(1)", x.count(1), 3);
        Check.due("no SENTENCE", x.said(-1), -1);
        Check.due("comb", x.count(4), 20);
        Check.due("restore(0) again", x.restore(0), true);
        Check.due("as kept", Check.row(x, 1), "");
        Check.due("days", x.days(1), 1);
        Check.due("'daily' is kept", Check.row(x, 1), "0");
    }

    private static void whatStays() {
        CombedOut x = Check.of(TEXT);
        x.image(0);
        x.round(999);
        x.beds();
        Check.fits(x, 1);
        x.tag(0);
        Check.book(x, 0, "day 7;");
        Check.sentence(x, "oh");
        x.cut(0);
        x.feed(1, 2, 3, 4, 5);
        x.restore(0);
        Check.due("count(5)", x.count(5), 20);
        Check.due("rounded()", x.rounded(), 1);
        Check.due("bedded()", x.bedded(), 0);
        Check.due("ask()", x.ask(), 0);
        Check.due("byteAt(0)", x.byteAt(0), 'p');
        Check.due("told(2)", x.told(2), 7);
        Check.due("fault()", x.fault(), 1);
        Check.due("row", Check.row(x, 0), "011");
    }

    private static void nothingCanBeUndone() {
        CombedOut x = Check.of(TEXT);
        x.days(1);
        x.image(0);
        x.days(1);
        Check.due("no such place", x.restore(1), false);
        Check.due("undo() still can", x.undo(), 1);
        x.days(1);
        x.restore(0);
        Check.due("undo()", x.undo(), -1);
        Check.due("DAY", x.now(0), 1);
        x.days(1);
        Check.due("undo() of a later act", x.undo(), 0);
        Check.due("an image undoes nothing", x.image(1), true);
    }
}
