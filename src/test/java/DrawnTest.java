/** Promises 30 and 31: DAYS DRAWN, and odds by them. */
public final class DrawnTest {
    private static final String TEXT = "thing a 2 3;thing b 3 1;thing c 1 1;person p 30;person q 30;comb 15;"
        + "daily p a 2;caught q a;";

    public static void main(String[] args) {
        wrongInputs();
        asActsOneByOne();
        withoutThings();
        overTheEnd();
        oddsByDrawing();
        oddsAtTheEnd();
        Check.finish();
    }

    private static void wrongInputs() {
        CombedOut x = Check.of(TEXT);
        Check.due("drawn(0, 1)", x.drawn(0, 1), -1);
        Check.due("drawn(61, 1)", x.drawn(61, 1), -1);
        Check.due("drawn(-1, 1)", x.drawn(-1, 1), -1);
        Check.due("odds(2, 1, 1)", x.odds(2, 1, 1), -1);
        Check.due("odds(-1, 1, 1)", x.odds(-1, 1, 1), -1);
        Check.due("odds(0, 0, 1)", x.odds(0, 0, 1), -1);
        Check.due("odds(0, 31, 1)", x.odds(0, 31, 1), -1);
        Check.due("nothing came of it", x.now(0), 0);
        Check.due("and nothing can be undone", x.undo(), -1);
    }

    private static int seed;

    private static int draw(int n) {
        seed = seed * 1103515245 + 12345;
        return (seed >>> 8) % n;
    }

    /** What drawn() should do, by calls of the face. */
    private static void drawByActs(CombedOut x, int days, int from) {
        seed = from;
        for (int day = 0; day < days && x.now(0) < 400; day++) {
            for (int p = 0; p < x.count(1); p++) {
                int act = draw(6);
                if (act <= 1 && x.count(0) > 0) {
                    x.snag(p, draw(x.count(0)));
                } else if (act == 2) {
                    x.stroke(p, draw(20) + 1);
                } else if (act == 3) {
                    x.cut(p);
                }
            }
            x.days(1);
        }
    }

    static void same(String when, CombedOut x, CombedOut y) {
        for (int what = 0; what <= 6; what++) {
            Check.due(when + " now(" + what + ")", x.now(what), y.now(what));
        }
        for (int p = 0; p < y.count(1); p++) {
            Check.due(when + " row " + p, Check.row(x, p), Check.row(y, p));
            Check.due(when + " PAIN " + p, Check.person(x, p, 1), Check.person(y, p, 1));
        }
        for (int t = 0; t < y.count(0); t++) {
            Check.due(when + " bag " + t, x.thing(t, 2), y.thing(t, 2));
        }
    }

    private static void asActsOneByOne() {
        for (int from : new int[] {0, 1, 2, 3, -1, 77, 123456789, Integer.MIN_VALUE, Integer.MAX_VALUE}) {
            CombedOut x = Check.of(TEXT);
            CombedOut y = Check.of(TEXT);
            Check.due("drawn(30, " + from + ")", x.drawn(30, from), 30);
            drawByActs(y, 30, from);
            same("seed " + from, x, y);
            Check.due("one act", x.undo(), 0);
            same("undone", x, Check.of(TEXT));
        }
    }

    private static void withoutThings() {
        String text = "person p 9;person q 9;";
        CombedOut x = Check.of(text);
        CombedOut y = Check.of(text);
        x.drawn(20, 5);
        drawByActs(y, 20, 5);
        same("no THINGS", x, y);
    }

    private static void overTheEnd() {
        CombedOut x = Check.of(TEXT);
        CombedOut y = Check.of(TEXT);
        for (int i = 0; i < 6; i++) {
            x.days(60);
            y.days(60);
        }
        Check.due("drawn(60, 9)", x.drawn(60, 9), 40);
        drawByActs(y, 60, 9);
        same("DAY 400", x, y);
        Check.due("no DAY more", x.drawn(60, 9), 0);
        same("nothing more", x, y);
        Check.due("undo() of the 40", x.undo(), 6);
        Check.due("DAY", x.now(0), 360);
    }

    private static void oddsByDrawing() {
        CombedOut x = Check.of("thing a 9 3;thing b 9 1;person p 30;person q 30;comb 8;caught p a;caught p b;caught p a;"
            + "caught p b;caught p a;caught q a;daily q b 2;");
        for (int from : new int[] {0, -3, 1000, Integer.MAX_VALUE - 2}) {
            for (int p = 0; p < 2; p++) {
                int found = 0;
                for (int i = 0; i < 30; i++) {
                    x.drawn(10, from + i);
                    found += Check.person(x, p, 6) == 1 ? 1 : 0;
                    x.undo();
                    if (i == 0) {
                        Check.due("odds of one seed", x.odds(p, 1, from), found);
                    }
                }
                Check.due("odds(" + p + ", 30, " + from + ")", x.odds(p, 30, from), found);
                Check.due("some, not all", found > 0 && found < 30, true);
            }
        }
        Check.due("all stays as it is", x.now(0), 0);
        Check.due("no act", x.undo(), -1);
    }

    private static void oddsAtTheEnd() {
        CombedOut x = Check.of("thing a 9 3;person p 30;person q 30;" + "caught p a;".repeat(8));
        for (int i = 0; i < 7; i++) {
            x.days(60);
        }
        Check.due("a NEST stays one", x.odds(0, 30, 1), 30);
        Check.due("another gets none", x.odds(1, 30, 1), 0);
    }
}
