import java.util.ArrayList;
import java.util.Arrays;
import java.util.HashMap;
import java.util.List;
import java.util.Map;
import java.util.Set;

/** The document once more, written as naively as can be, to be held against CombedOut by ModelTest. */
final class Model {
    static final Set<String> WORDS = Set.of("thing", "person", "caught", "daily", "bed", "comb", "stroke", "cut",
        "catches", "stuff", "day", "or", "and", "not", "bare", "nest", "sore", "has", "like", "knots", "pain", "number");

    static final class Fault extends RuntimeException {
        final int kind;
        final int place;

        Fault(int kind, int place) {
            this.kind = kind;
            this.place = place;
        }
    }

    /** kind: w a WORD, n a NUMBER, a sign, e the end, ? no TOKEN. */
    record Token(char kind, String text, int place) {
    }

    static List<Token> tokens(String text, int limit) {
        List<Token> all = new ArrayList<>();
        int i = 0;
        while (i < text.length() && i < limit) {
            char c = text.charAt(i);
            if (c == ' ' || c == '\n') {
                i++;
                continue;
            }
            int j = i;
            while (j < text.length() && String.valueOf(text.charAt(j)).matches("[a-z0-9]")) {
                j++;
            }
            String run = text.substring(i, Math.max(j, i + 1));
            char kind = run.matches("[a-z]{1,7}") ? 'w' : run.matches("[0-9]{1,3}") ? 'n' : run.matches("[;<=>()]") ? c : '?';
            all.add(new Token(kind, run, i));
            i += run.length();
        }
        all.add(text.length() > limit ? new Token('?', "", limit) : new Token('e', "", text.length()));
        return all;
    }

    static final class Parser {
        final List<Token> tokens;
        int at = 0;

        Parser(String text, int limit) {
            tokens = tokens(text, limit);
        }

        Token here() {
            return tokens.get(at);
        }

        Fault fault(int kind) {
            return new Fault(kind, here().place());
        }

        boolean is(String s) {
            return here().text().equals(s) && here().kind() != '?' && here().kind() != 'e';
        }

        void eat(String s) {
            if (!is(s)) {
                throw fault(1);
            }
            at++;
        }

        int number(int low, int high) {
            if (here().kind() != 'n') {
                throw fault(1);
            }
            int n = Integer.parseInt(here().text());
            if (n < low || n > high) {
                throw fault(2);
            }
            at++;
            return n;
        }

        String name() {
            if (here().kind() != 'w' || WORDS.contains(here().text())) {
                throw fault(1);
            }
            return here().text();
        }

        int told(List<String> of) {
            int i = of.indexOf(name());
            if (i < 0) {
                throw fault(3);
            }
            return i;
        }

        int take(List<String> of) {
            int i = told(of);
            at++;
            return i;
        }
    }

    static final class Town {
        List<String> things = new ArrayList<>();
        List<Integer> hold = new ArrayList<>();
        List<Integer> spring = new ArrayList<>();
        List<String> persons = new ArrayList<>();
        List<Integer> bears = new ArrayList<>();
        List<int[]> daily = new ArrayList<>();
        List<String> beds = new ArrayList<>();
        List<Integer> needs = new ArrayList<>();
        Integer comb = null;
        List<List<Integer>> first = new ArrayList<>();
        int lines = 0;

        int combed() {
            return comb == null ? 9 : comb;
        }

        private void fresh(Parser in, List<String> into) {
            String name = in.name();
            if (things.contains(name) || persons.contains(name) || beds.contains(name)) {
                throw in.fault(3);
            }
            into.add(name);
            in.at++;
        }

        static Town read(String text) {
            Town t = new Town();
            Parser in = new Parser(text, 900);
            while (in.here().kind() != 'e') {
                t.line(in);
                in.eat(";");
                t.lines++;
            }
            return t;
        }

        private void line(Parser in) {
            if (in.is("thing")) {
                room(in, things.size(), 8);
                fresh(in, things);
                hold.add(in.number(1, 9));
                spring.add(in.number(0, 9));
            } else if (in.is("person")) {
                room(in, persons.size(), 6);
                fresh(in, persons);
                bears.add(in.number(1, 99));
                first.add(new ArrayList<>());
            } else if (in.is("bed")) {
                room(in, beds.size(), 4);
                fresh(in, beds);
                needs.add(in.number(1, 99));
            } else if (in.is("daily")) {
                room(in, daily.size(), 12);
                daily.add(new int[] {in.take(persons), in.take(things), in.number(1, 9)});
            } else if (in.is("caught")) {
                in.at++;
                int p = in.told(persons);
                room(in, first.get(p).size(), 8);
                first.get(p).add(in.take(things));
            } else if (in.is("comb")) {
                if (comb != null) {
                    throw in.fault(3);
                }
                in.at++;
                comb = in.number(1, 20);
            } else {
                throw in.fault(1);
            }
        }

        private static void room(Parser in, int has, int most) {
            if (has >= most) {
                throw in.fault(4);
            }
            in.at++;
        }
    }

    static final class Scene {
        List<List<Integer>> rows = new ArrayList<>();
        List<Integer> bag = new ArrayList<>();
        List<List<Integer>> beds = new ArrayList<>();
        int[] pain;
        int day;
        int strokes;
        int cuts;
        int lost;

        Scene(Town t) {
            for (List<Integer> row : t.first) {
                rows.add(new ArrayList<>(row));
            }
            for (int b = 0; b < t.beds.size(); b++) {
                beds.add(new ArrayList<>());
            }
            pain = new int[rows.size()];
        }

        Scene(Scene o) {
            for (List<Integer> row : o.rows) {
                rows.add(new ArrayList<>(row));
            }
            for (List<Integer> bed : o.beds) {
                beds.add(new ArrayList<>(bed));
            }
            bag.addAll(o.bag);
            pain = o.pain.clone();
            day = o.day;
            strokes = o.strokes;
            cuts = o.cuts;
            lost = o.lost;
        }

        /** Lists of alike things, from the crown on. */
        List<List<Integer>> knots(int p) {
            List<List<Integer>> knots = new ArrayList<>();
            for (int t : rows.get(p)) {
                if (knots.isEmpty() || knots.get(knots.size() - 1).get(0) != t) {
                    knots.add(new ArrayList<>());
                }
                knots.get(knots.size() - 1).add(t);
            }
            return knots;
        }

        static int holds(Town t, List<Integer> things) {
            return things.stream().mapToInt(i -> t.hold.get(i)).sum();
        }

        int spring(Town t, int b) {
            return beds.get(b).stream().mapToInt(i -> t.spring.get(i)).sum();
        }

        boolean sleeps(Town t, int b) {
            return spring(t, b) >= t.needs.get(b);
        }

        int stroke(Town t, int p, int n) {
            List<List<Integer>> knots = knots(p);
            if (knots.isEmpty()) {
                return 1;
            }
            if (holds(t, knots.get(knots.size() - 1)) > n) {
                return 2;
            }
            if (n > t.combed()) {
                return 3;
            }
            if (pain[p] + n > t.bears.get(p)) {
                return 4;
            }
            int all = 0;
            while (!knots.isEmpty() && all + holds(t, knots.get(knots.size() - 1)) <= n) {
                List<Integer> knot = knots.remove(knots.size() - 1);
                all += holds(t, knot);
                for (int thing : knot) {
                    rows.get(p).remove(rows.get(p).size() - 1);
                    if (bag.size() < 10) {
                        bag.add(thing);
                    } else {
                        lost++;
                    }
                }
            }
            pain[p] += n;
            strokes++;
            return 0;
        }

        int cut(int p) {
            List<List<Integer>> knots = knots(p);
            if (knots.isEmpty()) {
                return 1;
            }
            for (int i = knots.get(knots.size() - 1).size(); i > 0; i--) {
                rows.get(p).remove(rows.get(p).size() - 1);
                lost++;
            }
            cuts++;
            return 0;
        }

        int snag(int p, int t) {
            if (rows.get(p).size() == 8) {
                return 1;
            }
            rows.get(p).add(t);
            return 0;
        }

        int stuff(int b, int t) {
            if (!bag.contains(t)) {
                return 1;
            }
            bag.remove(Integer.valueOf(t));
            beds.get(b).add(t);
            return 0;
        }

        boolean dayGoes(Town t, boolean anyDay) {
            if (day >= 400 && !anyDay) {
                return false;
            }
            Arrays.fill(pain, 0);
            for (int[] d : t.daily) {
                if ((day + 1) % d[2] == 0) {
                    snag(d[0], d[1]);
                }
            }
            day++;
            return true;
        }

        int drawn(Town t, int n, int seed) {
            int[] x = {seed};
            int went = 0;
            for (; went < n && day < 400; went++) {
                for (int p = 0; p < rows.size(); p++) {
                    switch (draw(x, 6)) {
                        case 0:
                        case 1:
                            if (!t.things.isEmpty()) {
                                snag(p, draw(x, t.things.size()));
                            }
                            break;
                        case 2:
                            stroke(t, p, draw(x, 20) + 1);
                            break;
                        case 3:
                            cut(p);
                            break;
                        default:
                    }
                }
                dayGoes(t, false);
            }
            return went;
        }

        private static int draw(int[] x, int n) {
            x[0] = x[0] * 1103515245 + 12345;
            return (x[0] >>> 8) % n;
        }
    }

    /** What can be said of a person: a tree. */
    interface Cond {
        boolean of(Model m, int p);
    }

    static final class Reader {
        final Parser in;
        final Town town;
        int ones = 0;

        Reader(String text, Town town) {
            in = new Parser(text, 200);
            this.town = town;
        }

        Cond whole() {
            Cond c = cond(1);
            if (in.here().kind() != 'e') {
                throw in.fault(1);
            }
            return c;
        }

        Cond cond(int depth) {
            Cond left = all(depth);
            while (in.is("or")) {
                in.at++;
                Cond a = left;
                Cond b = all(depth);
                left = (m, p) -> a.of(m, p) || b.of(m, p);
            }
            return left;
        }

        Cond all(int depth) {
            Cond left = one(depth);
            while (in.is("and")) {
                in.at++;
                Cond a = left;
                Cond b = one(depth);
                left = (m, p) -> a.of(m, p) && b.of(m, p);
            }
            return left;
        }

        Cond one(int depth) {
            if (in.here().kind() == '?' || !Set.of("not", "(", "bare", "nest", "sore", "has", "like", "caught", "knots",
                    "pain", "number").contains(in.here().text())) {
                throw in.fault(1);
            }
            if (ones == 20 || depth == 9) {
                throw in.fault(4);
            }
            ones++;
            String word = in.here().text();
            in.at++;
            switch (word) {
                case "not": {
                    Cond c = one(depth + 1);
                    return (m, p) -> !c.of(m, p);
                }
                case "(": {
                    Cond c = cond(depth + 1);
                    in.eat(")");
                    return c;
                }
                case "bare": return (m, p) -> m.scene.rows.get(p).isEmpty();
                case "nest": return (m, p) -> m.scene.rows.get(p).size() == 8;
                case "sore": return (m, p) -> m.scene.pain[p] == m.town.bears.get(p);
                case "has": {
                    int t = in.take(town.things);
                    return (m, p) -> m.scene.rows.get(p).contains(t);
                }
                case "like": {
                    int o = in.take(town.persons);
                    return (m, p) -> m.scene.rows.get(p).equals(m.scene.rows.get(o));
                }
                default: return measured(word);
            }
        }

        private Cond measured(String word) {
            char sign = in.here().kind();
            if (sign != '<' && sign != '=' && sign != '>') {
                throw in.fault(1);
            }
            in.at++;
            int n = in.number(0, 999);
            return (m, p) -> {
                int v = word.equals("caught") ? m.scene.rows.get(p).size() : word.equals("knots") ? m.scene.knots(p).size()
                    : word.equals("pain") ? m.scene.pain[p] : p;
                return sign == '<' ? v < n : sign == '=' ? v == n : v > n;
            };
        }
    }

    record Kept(Town town, Scene scene, Cond said) {
    }

    Town town = new Town();
    Scene scene = new Scene(town);
    Cond said = null;
    final List<Scene> past = new ArrayList<>();
    final Kept[] images = new Kept[2];
    int fault = 0;
    int rounded = -1;
    int bedded = -1;
    int ask = -1;
    String tag = "";
    int[] told = null;

    private void keep() {
        past.add(new Scene(scene));
        if (past.size() > 8) {
            past.remove(0);
        }
    }

    int quarter(String text) {
        try {
            town = Town.read(text);
        } catch (Fault f) {
            fault = f.kind;
            return -1 - f.place;
        }
        fault = 0;
        scene = new Scene(town);
        said = null;
        past.clear();
        return town.lines;
    }

    private boolean isPerson(int p) {
        return p >= 0 && p < town.persons.size();
    }

    private boolean isThing(int t) {
        return t >= 0 && t < town.things.size();
    }

    private boolean isBed(int b) {
        return b >= 0 && b < town.beds.size();
    }

    long person(int p, int what) {
        if (!isPerson(p) || what < 0 || what > 6) {
            return Check.THROWS;
        }
        List<List<Integer>> knots = scene.knots(p);
        return new int[] {town.bears.get(p), scene.pain[p], scene.rows.get(p).size(), knots.size(),
            knots.isEmpty() ? 0 : Scene.holds(town, knots.get(knots.size() - 1)), Scene.holds(town, scene.rows.get(p)),
            scene.rows.get(p).size() == 8 ? 1 : 0}[what];
    }

    int layer(int p, int k) {
        return isPerson(p) && k >= 0 && k < scene.rows.get(p).size() ? scene.rows.get(p).get(k) : -1;
    }

    private static int times(List<Integer> in, int t) {
        return (int) in.stream().filter(i -> i == t).count();
    }

    int thing(int t, int what) {
        if (!isThing(t) || what < 0 || what > 4) {
            return -1;
        }
        int who = 0;
        int still = times(scene.bag, t);
        for (int p = 0; p < scene.rows.size(); p++) {
            who += scene.rows.get(p).contains(t) ? 1 << p : 0;
            still += times(scene.rows.get(p), t);
        }
        for (List<Integer> bed : scene.beds) {
            still += times(bed, t);
        }
        return new int[] {town.hold.get(t), town.spring.get(t), times(scene.bag, t), who, still}[what];
    }

    int bed(int b, int what) {
        return !isBed(b) || what < 0 || what > 3 ? -1 : new int[] {town.needs.get(b), scene.spring(town, b),
            scene.sleeps(town, b) ? 1 : 0, scene.beds.get(b).size()}[what];
    }

    int now(int what) {
        int asleep = 0;
        for (int b = 0; b < scene.beds.size(); b++) {
            asleep += scene.sleeps(town, b) ? 1 << b : 0;
        }
        int nests = 0;
        for (int p = 0; p < scene.rows.size(); p++) {
            nests += scene.rows.get(p).size() == 8 ? 1 << p : 0;
        }
        return what < 0 || what > 6 ? -1 : new int[] {scene.day, scene.bag.size(), asleep, nests, scene.strokes,
            scene.cuts, scene.lost}[what];
    }

    private int act(Scene after, int why) {
        if (why == 0) {
            keep();
            scene = after;
        }
        return why;
    }

    int stroke(int p, int n) {
        Scene after = new Scene(scene);
        return isPerson(p) && n >= 1 && n <= 20 ? act(after, after.stroke(town, p, n)) : -1;
    }

    int cut(int p) {
        Scene after = new Scene(scene);
        return isPerson(p) ? act(after, after.cut(p)) : -1;
    }

    int snag(int p, int t) {
        Scene after = new Scene(scene);
        return isPerson(p) && isThing(t) ? act(after, after.snag(p, t)) : -1;
    }

    int stuff(int b, int t) {
        Scene after = new Scene(scene);
        return isBed(b) && isThing(t) ? act(after, after.stuff(b, t)) : -1;
    }

    int days(int n) {
        if (n < 1 || n > 60) {
            return -1;
        }
        Scene after = new Scene(scene);
        int went = 0;
        while (went < n && after.dayGoes(town, false)) {
            went++;
        }
        act(after, went > 0 ? 0 : 1);
        return went;
    }

    int undo() {
        if (past.isEmpty()) {
            return -1;
        }
        scene = past.remove(past.size() - 1);
        return past.size();
    }

    /** By trying strokes of every force: {fewest strokes, least force in all}, or null. */
    private int[] ease(Scene from, int p, Map<String, int[]> seen) {
        if (from.rows.get(p).isEmpty()) {
            return new int[] {0, 0};
        }
        String key = from.rows.get(p).size() + " " + from.pain[p];
        if (seen.containsKey(key)) {
            return seen.get(key);
        }
        int[] best = null;
        for (int n = 1; n <= 20; n++) {
            Scene after = new Scene(from);
            if (after.stroke(town, p, n) != 0) {
                continue;
            }
            int[] rest = ease(after, p, seen);
            if (rest != null) {
                int strokes = rest[0] + 1;
                int force = rest[1] + n;
                best = best == null ? new int[] {strokes, force}
                    : new int[] {Math.min(best[0], strokes), Math.min(best[1], force)};
            }
        }
        seen.put(key, best);
        return best;
    }

    int ease(int p) {
        int[] best = isPerson(p) ? ease(scene, p, new HashMap<>()) : null;
        return best == null ? -1 : best[0];
    }

    int nests(int p) {
        if (!isPerson(p)) {
            return -1;
        }
        Scene s = new Scene(scene);
        for (int d = 0; d <= 99; d++) {
            if (s.rows.get(p).size() == 8) {
                return d;
            }
            s.dayGoes(town, true);
        }
        return -1;
    }

    int round(int n) {
        if (n < 0 || n > 999) {
            return -1;
        }
        int[][] costs = new int[scene.rows.size()][];
        for (int p = 0; p < costs.length; p++) {
            costs[p] = scene.rows.get(p).isEmpty() ? null : ease(scene, p, new HashMap<>());
        }
        int[] best = null;
        for (int who = 0; who < 1 << costs.length; who++) {
            int sum = 0;
            for (int p = 0; p < costs.length; p++) {
                if ((who & 1 << p) != 0) {
                    sum += costs[p] == null ? 10000 : costs[p][1];
                }
            }
            int[] rank = {-Integer.bitCount(who), sum, who};
            if (sum <= n && (best == null || Arrays.compare(rank, best) < 0)) {
                best = rank;
            }
        }
        rounded = best[2];
        return -best[0];
    }

    private void stuffAll(int next, int[] spring, List<Integer> bag, int[] best) {
        int asleep = 0;
        for (int b = 0; b < spring.length; b++) {
            asleep += spring[b] >= town.needs.get(b) ? 1 << b : 0;
        }
        int[] rank = {-Integer.bitCount(asleep), asleep};
        if (Arrays.compare(rank, best) < 0) {
            System.arraycopy(rank, 0, best, 0, 2);
        }
        if (next == bag.size()) {
            return;
        }
        for (int b = 0; b < spring.length; b++) {
            if (spring[b] < town.needs.get(b)) {
                spring[b] += town.spring.get(bag.get(next));
                stuffAll(next + 1, spring, bag, best);
                spring[b] -= town.spring.get(bag.get(next));
            }
        }
        stuffAll(next + 1, spring, bag, best);
    }

    int beds() {
        int[] spring = new int[scene.beds.size()];
        for (int b = 0; b < spring.length; b++) {
            spring[b] = scene.spring(town, b);
        }
        int[] best = {1, 0};
        stuffAll(0, spring, scene.bag, best);
        bedded = best[1];
        return -best[0];
    }

    int fits(int[] tape) {
        if (tape.length < 1 || tape.length > 8) {
            return -1;
        }
        List<Integer> part = new ArrayList<>();
        for (int t : tape) {
            if (!isThing(t)) {
                return -1;
            }
            part.add(t);
        }
        List<Integer> who = new ArrayList<>();
        int bits = 0;
        for (int p = 0; p < scene.rows.size(); p++) {
            List<Integer> row = scene.rows.get(p);
            if (row.size() >= part.size() && row.subList(row.size() - part.size(), row.size()).equals(part)) {
                who.add(p);
                bits += 1 << p;
            }
        }
        if (bits > 0) {
            int least = 99;
            for (int k = 0; k < 8; k++) {
                Map<Integer, Integer> left = new HashMap<>();
                for (int p : who) {
                    int n = scene.rows.get(p).size();
                    left.merge(k < n ? scene.rows.get(p).get(n - 1 - k) : -1, 1, Integer::sum);
                }
                int most = left.values().stream().mapToInt(i -> i).max().getAsInt();
                if (most < least) {
                    least = most;
                    ask = k;
                }
            }
        }
        return bits;
    }

    int like(int p) {
        if (!isPerson(p)) {
            return -1;
        }
        int who = 0;
        for (int o = 0; o < scene.rows.size(); o++) {
            who += o != p && scene.rows.get(o).equals(scene.rows.get(p)) ? 1 << o : 0;
        }
        return who;
    }

    int hardest() {
        int best = -1;
        for (int p = 0; p < scene.rows.size(); p++) {
            if (best < 0 || person(p, 5) > person(best, 5)) {
                best = p;
            }
        }
        return best;
    }

    long mean(int p, int what) {
        if (!isPerson(p) || what < 0 || what > 1 || scene.rows.get(p).isEmpty()) {
            return Check.THROWS;
        }
        long above = person(p, 5);
        long below = person(p, 3);
        long common = java.math.BigInteger.valueOf(above).gcd(java.math.BigInteger.valueOf(below)).longValue();
        return (what == 0 ? above : below) / common;
    }

    int tag(int p) {
        if (!isPerson(p)) {
            return -1;
        }
        tag = town.persons.get(p);
        for (List<Integer> knot : scene.knots(p)) {
            tag += " " + town.things.get(knot.get(0)) + (knot.size() > 1 ? knot.size() : "");
        }
        tag += scene.rows.get(p).isEmpty() ? " bare" : "";
        return tag.length();
    }

    int byteAt(int i) {
        return i < 0 || i >= tag.length() ? -1 : tag.charAt(i);
    }

    int drawn(int n, int seed) {
        if (n < 1 || n > 60) {
            return -1;
        }
        Scene after = new Scene(scene);
        int went = after.drawn(town, n, seed);
        act(after, went > 0 ? 0 : 1);
        return went;
    }

    int odds(int p, int n, int seed) {
        if (!isPerson(p) || n < 1 || n > 30) {
            return -1;
        }
        int found = 0;
        for (int i = 0; i < n; i++) {
            Scene s = new Scene(scene);
            s.drawn(town, 10, seed + i);
            found += s.rows.get(p).size() == 8 ? 1 : 0;
        }
        return found;
    }

    /** Lines as {act, whom, what}: acts 0 stroke, 1 cut, 2 catches, 3 stuff, 4 day. */
    private List<int[]> lines(String text) {
        Parser in = new Parser(text, 400);
        List<int[]> lines = new ArrayList<>();
        while (in.here().kind() != 'e') {
            boolean other = in.is("stuff") || in.is("day");
            int p = other ? -1 : in.told(town.persons);
            if (lines.size() == 40) {
                throw in.fault(4);
            }
            if (!other) {
                in.at++;
            }
            if (other && in.is("stuff")) {
                in.at++;
                lines.add(new int[] {3, in.take(town.beds), in.take(town.things)});
            } else if (other) {
                in.at++;
                lines.add(new int[] {4, 0, in.number(1, 60)});
            } else if (in.is("stroke")) {
                in.at++;
                lines.add(new int[] {0, p, in.number(1, 20)});
            } else if (in.is("cut")) {
                in.at++;
                lines.add(new int[] {1, p, 0});
            } else {
                in.eat("catches");
                lines.add(new int[] {2, p, in.take(town.things)});
            }
            in.eat(";");
        }
        return lines;
    }

    int book(int lives, String text) {
        List<int[]> lines;
        try {
            lines = lines(text);
        } catch (Fault f) {
            fault = f.kind;
            return -2 - f.place;
        }
        fault = 0;
        Scene s = new Scene(scene);
        int why = 0;
        int done = 0;
        for (int[] line : lines) {
            switch (line[0]) {
                case 0: why = s.stroke(town, line[1], line[2]); break;
                case 1: why = s.cut(line[1]) == 0 ? 0 : 11; break;
                case 2: why = s.snag(line[1], line[2]) == 0 ? 0 : 21; break;
                case 3: why = s.stuff(line[1], line[2]) == 0 ? 0 : 31; break;
                default:
                    why = s.day + line[2] > 400 ? 41 : 0;
                    for (int i = 0; i < line[2] && why == 0; i++) {
                        s.dayGoes(town, false);
                    }
            }
            if (why != 0) {
                break;
            }
            done++;
        }
        told = new int[] {why, done, s.day, s.bag.size()};
        if (lives == 1) {
            act(s, done > 0 ? 0 : 1);
        }
        return why == 0 ? -1 : done;
    }

    int told(int what) {
        return told == null || what < 0 || what > 3 ? -1 : told[what];
    }

    int sentence(String text) {
        Reader reader = new Reader(text, town);
        try {
            said = reader.whole();
        } catch (Fault f) {
            fault = f.kind;
            return -1 - f.place;
        }
        fault = 0;
        return reader.ones;
    }

    int said(int k) {
        if (said == null) {
            return -1;
        }
        List<Integer> who = new ArrayList<>();
        for (int p = 0; p < scene.rows.size(); p++) {
            if (said.of(this, p)) {
                who.add(p);
            }
        }
        return k == -1 ? who.size() : k < 0 || k >= who.size() ? -1 : who.get(k);
    }

    boolean image(int k) {
        if (k < 0 || k > 1) {
            return false;
        }
        images[k] = new Kept(town, new Scene(scene), said);
        return true;
    }

    boolean restore(int k) {
        if (k < 0 || k > 1 || images[k] == null) {
            return false;
        }
        town = images[k].town();
        scene = new Scene(images[k].scene());
        said = images[k].said();
        past.clear();
        return true;
    }

    int count(int what, int tape) {
        return what < 0 || what > 5 ? -1 : new int[] {town.things.size(), town.persons.size(), town.daily.size(),
            town.beds.size(), town.combed(), tape}[what];
    }
}
