import java.util.NoSuchElementException;
import java.util.Random;

/** Any arguments, any bytes, in any state: no call throws but person() and mean(), and these one exception alone. */
public final class RobustTest {
    private static final int RUNS = 1500;
    private static final String[] PIECES = {"thing ", "person ", "caught ", "daily ", "bed ", "comb ", "a ", "b ", "c ", "p ",
        "q ", "1", "2 ", "9 ", ";", "; ", "(", ")", "not ", "and ", "or ", "bare ", "has ", "like ", "knots", "<", ">", "=",
        "stroke ", "cut", "catches ", "stuff ", "day ", "\n", "person p 99;", "thing a 1 1;", "thing b 9 9;", "bed c 5;",
        "caught p a;", "caught p b;", "daily p b 1;", "p catches a;", "p stroke 9;", "day 9;", "stuff c a;", "comb 20;"};

    private final Random random;
    private final CombedOut x = new CombedOut();
    private int calls = 0;

    private RobustTest(int seed) {
        random = new Random(seed);
    }

    public static void main(String[] args) {
        for (int seed = 0; seed < RUNS; seed++) {
            Check.due("run " + seed + " came to its end", new RobustTest(seed).go(), true);
        }
        Check.finish();
    }

    private boolean go() {
        try {
            if (random.nextBoolean()) {
                Check.quarter(x, "thing a 1 3;thing b 4 9;thing d 2 0;person p 99;person q 40;person r 7;bed c 9;bed e 5;"
                    + "comb 20;daily p a 2;daily q b 3;caught p a;caught p b;caught r d;caught r a;");
            }
            while (calls < 480) {
                step();
                calls++;
            }
            return true;
        } catch (RuntimeException e) {
            e.printStackTrace(System.out);
            return false;
        }
    }

    private int any() {
        switch (random.nextInt(8)) {
            case 0: return random.nextInt();
            case 1: return Integer.MAX_VALUE - random.nextInt(2);
            case 2: return Integer.MIN_VALUE + random.nextInt(2);
            case 3: return random.nextInt(1100) - 50;
            default: return random.nextInt(12) - 1;
        }
    }

    private void fill() {
        StringBuilder text = new StringBuilder();
        for (int i = random.nextInt(40); i > 0; i--) {
            text.append(random.nextInt(60) == 0 ? String.valueOf((char) random.nextInt(256))
                : PIECES[random.nextInt(PIECES.length)]);
        }
        x.end(0);
        Check.feed(x, text.length() > 940 ? text.substring(0, 940) : text.toString());
        calls += text.length() / 20 + 2;
    }

    private void step() {
        int a = any();
        int b = any();
        switch (random.nextInt(40)) {
            case 0: x.feed(a, b, any(), any(), any()); break;
            case 1: x.end(a); break;
            case 2: case 3: fill(); x.quarter(); break;
            case 4: fill(); x.book(random.nextInt(2)); break;
            case 5: fill(); x.sentence(); break;
            case 6: x.fits(); break;
            case 7: x.book(a); break;
            case 8: personAndMean(a, b); break;
            case 9: x.layer(a, b); break;
            case 10: x.thing(a, b); break;
            case 11: x.bed(a, b); break;
            case 12: x.now(a); break;
            case 13: x.stroke(a, b); break;
            case 14: x.cut(a); break;
            case 15: x.snag(a, b); break;
            case 16: x.stuff(a, b); break;
            case 17: x.days(a); break;
            case 18: x.undo(); break;
            case 19: x.ease(a); break;
            case 20: x.nests(a); break;
            case 21: x.round(a); break;
            case 22: x.rounded(); break;
            case 23: x.beds(); break;
            case 24: x.bedded(); break;
            case 25: x.ask(); break;
            case 26: x.like(a); break;
            case 27: x.hardest(); break;
            case 28: x.tag(a); break;
            case 29: x.byteAt(a); break;
            case 30: x.drawn(a, b); break;
            case 31: x.odds(a, b, any()); break;
            case 32: x.told(a); break;
            case 33: x.said(a); break;
            case 34: x.image(a); break;
            case 35: x.restore(a); break;
            case 36: x.count(a); break;
            case 37: x.fault(); break;
            case 38: x.sentence(); break;
            default: x.quarter();
        }
    }

    private void personAndMean(int a, int b) {
        try {
            x.person(a, b);
        } catch (NoSuchElementException e) {
            calls++;
        }
        try {
            x.mean(a, b);
        } catch (NoSuchElementException e) {
            calls++;
        }
    }
}
