import java.util.NoSuchElementException;

/** What the project's tests share: feeding texts, and telling answers that are not due. */
final class Check {
    /** Stands for a call that throws NoSuchElementException. */
    static final long THROWS = Long.MIN_VALUE;

    private static int done = 0;
    private static int wrong = 0;
    private static String sentence = "";

    private Check() {
    }

    /** The document's sentence that the next answers are held against, told with each that is not as due. */
    static void says(String words) {
        sentence = "[" + words + "] ";
    }

    static void due(String call, long got, long want) {
        done++;
        if (got != want) {
            wrong++;
            System.out.println(sentence + call + " answered " + got + ", due is " + want);
        }
    }

    static void due(String call, boolean got, boolean want) {
        due(call, got ? 1 : 0, want ? 1 : 0);
    }

    static void due(String call, String got, String want) {
        done++;
        if (!got.equals(want)) {
            wrong++;
            System.out.println(sentence + call + " answered '" + got + "', due is '" + want + "'");
        }
    }

    static void finish() {
        System.out.println(done + " answers looked at, " + wrong + " not as due");
        if (wrong != 0) {
            System.exit(1);
        }
    }

    /** Puts just these bytes on an empty tape; what end() takes off is no THING and would spoil a text. */
    static void feed(CombedOut x, int... bytes) {
        for (int at = 0; at < bytes.length; at += 20) {
            int[] n = new int[5];
            for (int i = 0; i < 20; i++) {
                int b = at + i < bytes.length ? bytes[at + i] : 'x';
                n[i / 4] = n[i / 4] << 8 | b;
            }
            x.feed(n[0], n[1], n[2], n[3], n[4]);
        }
        x.end(bytes.length);
    }

    static void feed(CombedOut x, String text) {
        feed(x, text.chars().toArray());
    }

    static int quarter(CombedOut x, String text) {
        feed(x, text);
        return x.quarter();
    }

    static int book(CombedOut x, int lives, String text) {
        feed(x, text);
        return x.book(lives);
    }

    static int sentence(CombedOut x, String text) {
        feed(x, text);
        return x.sentence();
    }

    static int fits(CombedOut x, int... things) {
        feed(x, things);
        return x.fits();
    }

    /** A QUARTER that is fine, or has a FAULT: told as kind and place ("2 at 8"), or as how many LINES. */
    static String quarterTold(String text) {
        CombedOut x = new CombedOut();
        int answer = quarter(x, text);
        return answer >= 0 ? answer + " LINES" : x.fault() + " at " + (-1 - answer);
    }

    /** The same of a BOOK that is judged: "fine", or "line n" for one that is WRONG. */
    static String bookTold(String quarter, String text) {
        CombedOut x = of(quarter);
        int answer = book(x, 0, text);
        return answer == -1 ? "fine" : answer >= 0 ? "line " + answer : x.fault() + " at " + (-2 - answer);
    }

    /** The same of a SENTENCE: how many ONES, if it is fine. */
    static String sentenceTold(String quarter, String text) {
        CombedOut x = of(quarter);
        int answer = sentence(x, text);
        return answer >= 0 ? answer + " ONES" : x.fault() + " at " + (-1 - answer);
    }

    /** Of whom the SENTENCE is said, as digits. */
    static String saidOf(CombedOut x) {
        StringBuilder text = new StringBuilder();
        for (int k = 0; k < x.said(-1); k++) {
            text.append(x.said(k));
        }
        return text.toString();
    }

    static CombedOut of(String quarter) {
        CombedOut x = new CombedOut();
        int lines = quarter(x, quarter);
        due("a quarter that should be fine, fault()", x.fault(), 0);
        due("its LINES", lines, quarter.chars().filter(c -> c == ';').count());
        return x;
    }

    static long person(CombedOut x, int p, int what) {
        try {
            return x.person(p, what);
        } catch (NoSuchElementException e) {
            return THROWS;
        }
    }

    static long mean(CombedOut x, int p, int what) {
        try {
            return x.mean(p, what);
        } catch (NoSuchElementException e) {
            return THROWS;
        }
    }

    static String tag(CombedOut x, int p) {
        int size = x.tag(p);
        StringBuilder text = new StringBuilder();
        for (int i = 0; i < size; i++) {
            text.append((char) x.byteAt(i));
        }
        return text.toString();
    }

    /** A person's row from the crown on, as digits. */
    static String row(CombedOut x, int p) {
        StringBuilder text = new StringBuilder();
        for (int k = 0; x.layer(p, k) != CombedOut.NONE; k++) {
            text.append(x.layer(p, k));
        }
        return text.toString();
    }
}
