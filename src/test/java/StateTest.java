/** Promises 6 to 10, and 25 to 29: what is so of persons, things, beds and rows. */
public final class StateTest {
    private static final String TEXT = "thing a 2 3;thing bb 3 0;thing c 1 9;person ann 20;person bo 5;person cyd 99;"
        + "person dee 7;caught ann a;caught ann bb;caught ann bb;caught ann a;caught bo c;caught dee c;"
        + "bed x 3;bed y 9;comb 12;";

    public static void main(String[] args) {
        persons();
        layers();
        things();
        bedsAndNow();
        rows();
        means();
        tags();
        nestTag();
        Check.finish();
    }

    private static void persons() {
        CombedOut x = Check.of(TEXT);
        int[] ann = {20, 0, 4, 3, 2, 10, 0};
        int[] cyd = {99, 0, 0, 0, 0, 0, 0};
        for (int what = 0; what <= 6; what++) {
            Check.due("ann " + what, Check.person(x, 0, what), ann[what]);
            Check.due("cyd " + what, Check.person(x, 2, what), cyd[what]);
        }
        for (int what : new int[] {-1, 7, Integer.MIN_VALUE, Integer.MAX_VALUE}) {
            Check.due("person(0, " + what + ")", Check.person(x, 0, what), Check.THROWS);
            Check.due("person(" + what + ", 0)", Check.person(x, what, 0), Check.THROWS);
        }
        Check.due("person(4, 0)", Check.person(x, 4, 0), Check.THROWS);
        x.cut(0);
        Check.due("the outside knot then", Check.person(x, 0, 4), 6);
        for (int i = 0; i < 8; i++) {
            Check.due("nest ahead of it", Check.person(x, 2, 6), 0);
            x.snag(2, 1);
        }
        Check.due("nest", Check.person(x, 2, 6), 1);
        Check.due("one knot of eight", Check.person(x, 2, 3), 1);
        Check.due("it holds", Check.person(x, 2, 4), 24);
        Check.due("all hold", Check.person(x, 2, 5), 24);
    }

    private static void layers() {
        CombedOut x = Check.of(TEXT);
        Check.due("ann's row", Check.row(x, 0), "0110");
        Check.due("layer(0, 4)", x.layer(0, 4), -1);
        Check.due("layer(0, -1)", x.layer(0, -1), -1);
        Check.due("layer(-1, 0)", x.layer(-1, 0), -1);
        Check.due("layer(4, 0)", x.layer(4, 0), -1);
        Check.due("layer(2, 0)", x.layer(2, 0), -1);
        Check.due("layer(5, max)", x.layer(5, Integer.MAX_VALUE), -1);
        Check.due("layer(0, max)", x.layer(0, Integer.MAX_VALUE), -1);
    }

    private static void things() {
        CombedOut x = Check.of(TEXT);
        int[] a = {2, 3, 0, 1, 2};
        int[] c = {1, 9, 0, 10, 2};
        for (int what = 0; what <= 4; what++) {
            Check.due("a " + what, x.thing(0, what), a[what]);
            Check.due("c " + what, x.thing(2, what), c[what]);
        }
        Check.due("stroke(1, 1)", x.stroke(1, 1), 0);
        Check.due("stroke(3, 1)", x.stroke(3, 1), 0);
        Check.due("c in the bag", x.thing(2, 2), 2);
        Check.due("nobody has c", x.thing(2, 3), 0);
        x.stuff(0, 2);
        Check.due("one c in the bag", x.thing(2, 2), 1);
        Check.due("c is still two", x.thing(2, 4), 2);
        x.snag(2, 2);
        x.cut(2);
        Check.due("a cut c is no more", x.thing(2, 4), 2);
        Check.due("thing(3, 0)", x.thing(3, 0), -1);
        Check.due("thing(-1, 0)", x.thing(-1, 0), -1);
        Check.due("thing(0, 5)", x.thing(0, 5), -1);
        Check.due("thing(0, -1)", x.thing(0, -1), -1);
    }

    private static void bedsAndNow() {
        CombedOut x = Check.of(TEXT);
        Check.due("bed(1, 0)", x.bed(1, 0), 9);
        Check.due("bed(2, 0)", x.bed(2, 0), -1);
        Check.due("bed(-1, 0)", x.bed(-1, 0), -1);
        Check.due("bed(0, 4)", x.bed(0, 4), -1);
        Check.due("bed(0, -1)", x.bed(0, -1), -1);
        x.stroke(0, 10);
        x.stroke(1, 1);
        Check.due("now(1)", x.now(1), 5);
        x.stuff(1, 1);
        Check.due("a thing without spring", x.bed(1, 1), 0);
        Check.due("is in it", x.bed(1, 3), 1);
        x.stuff(1, 2);
        Check.due("bed(1, 1)", x.bed(1, 1), 9);
        Check.due("just enough", x.bed(1, 2), 1);
        Check.due("bed(0, 2)", x.bed(0, 2), 0);
        Check.due("now(2)", x.now(2), 2);
        x.stuff(0, 0);
        Check.due("now(2) then", x.now(2), 3);
        Check.due("now(4)", x.now(4), 2);
        x.cut(3);
        Check.due("now(5)", x.now(5), 1);
        Check.due("now(6)", x.now(6), 1);
        for (int p = 1; p <= 3; p += 2) {
            for (int i = 0; i < 8; i++) {
                x.snag(p, 0);
            }
        }
        Check.due("now(3)", x.now(3), 10);
        Check.due("now(7)", x.now(7), -1);
        Check.due("now(-1)", x.now(-1), -1);
    }

    private static void rows() {
        CombedOut x = Check.of(TEXT);
        Check.due("like(0)", x.like(0), 0);
        Check.due("like(1)", x.like(1), 8);
        Check.due("like(3)", x.like(3), 2);
        Check.due("like(4)", x.like(4), -1);
        Check.due("like(-1)", x.like(-1), -1);
        x.cut(1);
        Check.due("both bare", x.like(1), 4);
        Check.due("hardest()", x.hardest(), 0);
        x.stroke(0, 10);
        Check.due("hardest() then", x.hardest(), 3);
        x.cut(3);
        Check.due("of none the first", x.hardest(), 0);
        x.snag(3, 1);
        x.snag(2, 2);
        x.snag(2, 0);
        Check.due("of like ones the first", x.hardest(), 2);
    }

    private static void means() {
        CombedOut x = Check.of(TEXT);
        Check.due("10 by 3, above", Check.mean(x, 0, 0), 10);
        Check.due("10 by 3, below", Check.mean(x, 0, 1), 3);
        x.cut(0);
        Check.due("8 by 2, above", Check.mean(x, 0, 0), 4);
        Check.due("8 by 2, below", Check.mean(x, 0, 1), 1);
        Check.due("no knots", Check.mean(x, 2, 0), Check.THROWS);
        Check.due("no such one", Check.mean(x, 4, 0), Check.THROWS);
        Check.due("mean(-1, 0)", Check.mean(x, -1, 0), Check.THROWS);
        Check.due("mean(0, 2)", Check.mean(x, 0, 2), Check.THROWS);
        Check.due("mean(0, -1)", Check.mean(x, 0, -1), Check.THROWS);
        for (int t : new int[] {2, 0, 2, 0, 2, 0}) {
            x.snag(2, t);
        }
        Check.due("9 by 6, above", Check.mean(x, 2, 0), 3);
        Check.due("9 by 6, below", Check.mean(x, 2, 1), 2);
    }

    private static void tags() {
        CombedOut x = Check.of(TEXT);
        Check.due("ann", Check.tag(x, 0), "ann a bb2 a");
        Check.due("cyd", Check.tag(x, 2), "cyd bare");
        Check.due("byteAt(8)", x.byteAt(8), -1);
        Check.due("byteAt(7)", x.byteAt(7), 'e');
        Check.due("byteAt(-1)", x.byteAt(-1), -1);
        Check.due("tag(4)", x.tag(4), -1);
        Check.due("tag(-1)", x.tag(-1), -1);
        Check.due("the latest TAG stays", x.byteAt(0), 'c');
        Check.quarter(x, "");
        Check.due("with a new QUARTER too", x.byteAt(0), 'c');
    }

    private static void nestTag() {
        CombedOut x = Check.of("person abcdefg 1;thing hijklmn 1 1;thing opqrstu 1 1;");
        for (int i = 0; i < 8; i++) {
            x.snag(0, i % 2);
        }
        Check.due("the longest TAG", Check.tag(x, 0), "abcdefg" + " hijklmn opqrstu".repeat(4));
        CombedOut y = Check.of("person p 1;thing t 1 1;" + "caught p t;".repeat(8));
        Check.due("eight in a knot", Check.tag(y, 0), "p t8");
    }
}
