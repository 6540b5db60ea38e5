import java.util.Random;

/** Runs of calls, drawn with written seeds, on CombedOut and on the Model: all answers must be the same. */
public final class ModelTest {
    private static final int RUNS = 1500;
    private static final String[] THINGS = {"a", "tram", "bb", "straws", "c", "dd", "e", "feather", "g"};
    private static final String[] PERSONS = {"ann", "bo", "cyd", "d", "eve", "frances", "h"};
    private static final String[] BEDS = {"x", "yy", "z", "w", "v"};
    private static final String[] ALL_WORDS = Model.WORDS.stream().sorted().toArray(String[]::new);

    private final Random random;
    private final CombedOut x = new CombedOut();
    private final Model m = new Model();
    private int calls = 0;
    private final String run;

    private ModelTest(int seed) {
        random = new Random(seed);
        run = "run " + seed + ": ";
    }

    public static void main(String[] args) {
        for (int seed = 0; seed < RUNS; seed++) {
            new ModelTest(seed).go();
        }
        Check.finish();
    }

    private int pick(int n) {
        return random.nextInt(n);
    }

    /** Mostly 0 to most, now and then something that is likely wrong. */
    private int about(int most) {
        int r = pick(40);
        return r == 0 ? -1 : r == 1 ? most + 1 : r == 2 ? random.nextInt() : pick(most + 1);
    }

    private String oneOf(String[] from, int most) {
        int r = pick(150);
        return r == 0 ? ALL_WORDS[pick(ALL_WORDS.length)] : r == 1 ? "zzz" : r == 2 ? THINGS[pick(9)] : from[pick(most)];
    }

    private int number(int low, int high) {
        return pick(200) == 0 ? pick(130) : low + pick(high - low + 1);
    }

    private int things;
    private int persons;
    private int beds;

    private String quarterText() {
        StringBuilder t = new StringBuilder();
        boolean wild = pick(12) == 0;
        int small = pick(3) == 0 ? 2 : 9;
        things = wild ? pick(10) : 1 + pick(small == 2 ? 2 : 8);
        persons = wild ? pick(8) : 1 + pick(6);
        beds = wild ? pick(6) : pick(5);
        for (int i = 0; i < things; i++) {
            t.append("thing ").append(THINGS[i]).append(' ').append(number(1, small)).append(' ').append(number(0, 9)).append(';');
        }
        for (int i = 0; i < persons; i++) {
            t.append("person ").append(PERSONS[i]).append(' ').append(pick(3) == 0 ? number(1, 20) : number(1, 99)).append(';');
        }
        for (int i = 0; i < beds; i++) {
            t.append("bed ").append(BEDS[i]).append(' ').append(pick(4) == 0 ? number(1, 99) : number(1, 15)).append(';');
        }
        if (things > 0 && persons > 0) {
            for (int i = pick(wild ? 50 : 25); i > 0; i--) {
                t.append("caught ").append(oneOf(PERSONS, Math.min(persons, 7))).append(' ').append(oneOf(THINGS, Math.min(things, 9)))
                    .append(pick(9) == 0 ? " ;\n" : ";");
            }
            for (int i = pick(wild ? 14 : 6); i > 0; i--) {
                t.append("daily ").append(oneOf(PERSONS, Math.min(persons, 7))).append(' ').append(oneOf(THINGS, Math.min(things, 9)))
                    .append(' ').append(number(1, 9)).append(';');
            }
        }
        for (int i = pick(20) == 0 ? 2 : pick(2); i > 0; i--) {
            t.append("comb ").append(number(1, 20)).append(';');
        }
        things = Math.max(1, Math.min(things, 8));
        persons = Math.max(1, Math.min(persons, 6));
        beds = Math.max(1, Math.min(beds, 4));
        return spoiled(t, 940, 8);
    }

    private String bookText() {
        StringBuilder t = new StringBuilder();
        int most = pick(15) == 0 ? 45 : 12;
        for (int i = pick(most); i > 0; i--) {
            String p = oneOf(PERSONS, persons);
            switch (pick(7)) {
                case 0: case 1: t.append(p).append(" stroke ").append(number(1, 20)); break;
                case 2: t.append(p).append(" cut"); break;
                case 3: case 4: t.append(p).append(" catches ").append(oneOf(THINGS, things)); break;
                case 5: t.append("stuff ").append(oneOf(BEDS, beds)).append(' ').append(oneOf(THINGS, things)); break;
                default: t.append("day ").append(number(1, pick(3) == 0 ? 60 : 3));
            }
            t.append(';');
        }
        return spoiled(t, 440, 8);
    }

    private void one(StringBuilder t, int depth) {
        switch (pick(depth > 8 ? 8 : 12)) {
            case 0: t.append("bare"); break;
            case 1: t.append("nest"); break;
            case 2: t.append("sore"); break;
            case 3: t.append("has ").append(oneOf(THINGS, things)); break;
            case 4: t.append("like ").append(oneOf(PERSONS, persons)); break;
            case 5: case 6: case 7:
                t.append(new String[] {"caught", "knots", "pain", "number"}[pick(4)]).append(pick(2) == 0 ? " " : "")
                    .append("<=>".charAt(pick(3))).append(pick(60) == 0 ? 1000 : pick(9));
                break;
            case 8: case 9:
                t.append("not ");
                one(t, depth + 1);
                break;
            default:
                t.append('(');
                cond(t, depth + 1);
                t.append(')');
        }
    }

    private void cond(StringBuilder t, int depth) {
        one(t, depth);
        for (int i = pick(depth == 0 && pick(10) == 0 ? 25 : 4); i > 0 && t.length() < 230; i--) {
            t.append(pick(2) == 0 ? " and " : " or ");
            one(t, depth);
        }
    }

    private String sentenceText() {
        StringBuilder t = new StringBuilder();
        cond(t, 0);
        return spoiled(t, 230, 6);
    }

    /** Now and then a byte is changed, put in or left out, or blanks make the text too long. */
    private String spoiled(StringBuilder t, int most, int seldom) {
        if (pick(seldom) == 0) {
            String signs = "abz019;<=>() \n.A";
            for (int i = 1 + pick(2); i > 0 && t.length() > 0; i--) {
                int at = pick(t.length());
                char c = signs.charAt(pick(signs.length()));
                switch (pick(3)) {
                    case 0: t.setCharAt(at, c); break;
                    case 1: t.insert(at, c); break;
                    default: t.deleteCharAt(at);
                }
            }
        }
        if (pick(seldom * 3) == 0 && t.length() < most) {
            String blanks = " ".repeat(pick(most - t.length() + 1));
            t.insert(pick(2) == 0 ? 0 : t.length(), blanks);
        }
        return t.length() > 940 ? t.substring(0, 940) : t.toString();
    }

    private void same(String call, long got, long want) {
        calls++;
        Check.due(run + call, got, want);
    }

    private void feed(String text) {
        Check.feed(x, text);
        calls += (text.length() + 19) / 20 + 1;
    }

    private void quarter() {
        String text = quarterText();
        feed(text);
        same("quarter '" + text + "'", x.quarter(), m.quarter(text));
        same("fault()", x.fault(), m.fault);
    }

    private void go() {
        quarter();
        while (calls < 460) {
            if (calls < 400 && pick(90) == 0) {
                quarter();
            } else {
                step();
            }
        }
    }

    private void step() {
        int p = about(5);
        int t = about(7);
        int b = about(3);
        int n;
        switch (pick(34)) {
            case 0: case 1: case 2: n = about(20); same("stroke " + p + " " + n, x.stroke(p, n), m.stroke(p, n)); break;
            case 3: same("cut " + p, x.cut(p), m.cut(p)); break;
            case 4: case 5: case 6: case 7: case 8: same("snag " + p + " " + t, x.snag(p, t), m.snag(p, t)); break;
            case 9: case 10: same("stuff " + b + " " + t, x.stuff(b, t), m.stuff(b, t)); break;
            case 11: n = about(pick(5) == 0 ? 60 : 4); same("days " + n, x.days(n), m.days(n)); break;
            case 12: case 13: same("undo", x.undo(), m.undo()); break;
            case 14: same("ease " + p, x.ease(p), m.ease(p)); break;
            case 15: same("nests " + p, x.nests(p), m.nests(p)); break;
            case 16: n = about(pick(3) == 0 ? 999 : 60); same("round " + n, x.round(n), m.round(n)); break;
            case 17: same("beds", x.beds(), m.beds()); break;
            case 18: fits(); break;
            case 19: same("like " + p, x.like(p), m.like(p)); same("hardest", x.hardest(), m.hardest()); break;
            case 20: n = about(1); same("mean " + p + " " + n, Check.mean(x, p, n), m.mean(p, n)); break;
            case 21: same("tag " + p, x.tag(p), m.tag(p)); break;
            case 22: n = about(12); int s = random.nextInt(); same("drawn " + n, x.drawn(n, s), m.drawn(n, s)); break;
            case 23: n = about(30); int u = random.nextInt(); same("odds " + p + " " + n, x.odds(p, n, u), m.odds(p, n, u)); break;
            case 24: book(); break;
            case 25: sentence(); break;
            case 26: n = about(6) - 1; same("said " + n, x.said(n), m.said(n)); break;
            case 27: n = about(1); same("image " + n, x.image(n) ? 1 : 0, m.image(n) ? 1 : 0); break;
            case 28: n = pick(3) == 0 ? about(1) : 9; same("restore " + n, x.restore(n) ? 1 : 0, m.restore(n) ? 1 : 0); break;
            default: look(p, t, b);
        }
    }

    private void fits() {
        int[] part = new int[pick(30) == 0 ? pick(11) : 1 + pick(3)];
        int p = pick(persons);
        int top = 0;
        while (m.layer(p, top) != -1) {
            top++;
        }
        for (int i = 0; i < part.length; i++) {
            int layer = m.layer(p, top - part.length + i);
            part[i] = pick(15) == 0 ? pick(256) : layer < 0 ? pick(things) : layer;
        }
        Check.feed(x, part);
        calls += 2;
        same("fits " + java.util.Arrays.toString(part), x.fits(), m.fits(part));
        same("ask", x.ask(), m.ask);
    }

    private void book() {
        String text = bookText();
        int lives = pick(2);
        feed(text);
        same("book(" + lives + ") '" + text + "'", x.book(lives), m.book(lives, text));
        same("fault()", x.fault(), m.fault);
    }

    private void sentence() {
        String text = sentenceText();
        feed(text);
        same("sentence '" + text + "'", x.sentence(), m.sentence(text));
        same("fault()", x.fault(), m.fault);
        same("said(-1)", x.said(-1), m.said(-1));
    }

    private void look(int p, int t, int b) {
        int n = about(6);
        same("person " + p + " " + n, Check.person(x, p, n), m.person(p, n));
        same("layer " + p + " " + n, x.layer(p, n), m.layer(p, n));
        n = about(4);
        same("thing " + t + " " + n, x.thing(t, n), m.thing(t, n));
        n = about(3);
        same("bed " + b + " " + n, x.bed(b, n), m.bed(b, n));
        n = about(6);
        same("now " + n, x.now(n), m.now(n));
        n = about(5);
        same("count " + n, x.count(n), m.count(n, 0));
        n = about(3);
        same("told " + n, x.told(n), m.told(n));
        n = about(30);
        same("byteAt " + n, x.byteAt(n), m.byteAt(n));
        same("rounded", x.rounded(), m.rounded);
        same("bedded", x.bedded(), m.bedded);
        same("fault", x.fault(), m.fault);
    }
}
