import java.util.NoSuchElementException;

/** A quarter of persons in whose hair things catch, a comb, a bag and beds, as the document tells. */
public final class CombedOut {
    public static final int NONE = -1;

    private static final int MOST_THINGS = 8;
    private static final int MOST_PERSONS = 6;
    private static final int MOST_BEDS = 4;
    private static final int MOST_DAILY = 12;
    private static final int NEST = 8;
    private static final int BAG_ROOM = 10;
    private static final int MOST_FORCE = 20;
    private static final int MOST_ROUND = 999;
    private static final int LAST_DAY = 400;
    private static final int MOST_DAYS = 60;
    private static final int MOST_SEEDS = 30;
    private static final int ODDS_DAYS = 10;
    private static final int IMAGES = 2;
    private static final int OTHER_LIVES = -1000;

    private static final int CANT_COME = 1;
    private static final int BAD_NUMBER = 2;
    private static final int BAD_NAME = 3;
    private static final int TOO_MANY = 4;

    private final Tape tape;
    private final Quarter quarter;
    private final State state;
    private final Sentence sentence;
    private final Past past;
    private final Image[] images;
    private final Plans plans;
    private final Book book;
    private final Tag tag;
    // What is being read or tried, so that a FAULT or a trial leaves what is so alone.
    private final Quarter draftQuarter;
    private final Sentence draftSentence;
    private final State trial;
    private int fault;
    private int lastRounded;
    private int lastBedded;
    private int lastAsk;

    public CombedOut() {
        tape = new Tape();
        quarter = new Quarter();
        state = new State();
        sentence = new Sentence();
        past = new Past();
        images = new Image[IMAGES];
        for (int i = 0; i < IMAGES; i++) {
            images[i] = new Image();
        }
        plans = new Plans();
        book = new Book();
        tag = new Tag();
        draftQuarter = new Quarter();
        draftSentence = new Sentence();
        trial = new State();
        fault = 0;
        lastRounded = NONE;
        lastBedded = NONE;
        lastAsk = NONE;
    }

    public int feed(int a, int b, int c, int d, int e) {
        if (tape.length + 20 > Tape.MOST_BYTES) {
            return NONE;
        }
        tape.putNumber(a);
        tape.putNumber(b);
        tape.putNumber(c);
        tape.putNumber(d);
        tape.putNumber(e);
        return tape.length;
    }

    public boolean end(int n) {
        if (n < 0 || n > tape.length) {
            return false;
        }
        tape.length = n;
        return true;
    }

    public int quarter() {
        int lines = draftQuarter.readFrom(tape, trial);
        tape.length = 0;
        fault = tape.faultKind;
        if (fault != 0) {
            return -1 - tape.faultPlace;
        }
        quarter.copyFrom(draftQuarter);
        state.copyFrom(trial);
        sentence.forget();
        past.forget();
        return lines;
    }

    public int fault() {
        return fault;
    }

    public int person(int p, int what) throws NoSuchElementException {
        if (!isPerson(p)) {
            throw new NoSuchElementException("no such person");
        }
        switch (what) {
            case 0: return quarter.bears[p];
            case 1: return state.pains[p];
            case 2: return state.heights[p];
            case 3: return state.knotsOf(p);
            case 4: return state.outsideHolds(quarter, p);
            case 5: return state.allHolds(quarter, p);
            case 6: return state.isNest(p) ? 1 : 0;
            default: throw new NoSuchElementException("nothing such is told of a person");
        }
    }

    public int layer(int p, int k) {
        return isPerson(p) ? state.layerAt(p, k) : NONE;
    }

    public int thing(int t, int what) {
        if (!isThing(t)) {
            return NONE;
        }
        switch (what) {
            case 0: return quarter.holds[t];
            case 1: return quarter.springs[t];
            case 2: return state.bag[t];
            case 3: return state.whoHas(quarter, t);
            case 4: return state.stillOf(quarter, t);
            default: return NONE;
        }
    }

    public int bed(int b, int what) {
        if (!isBed(b)) {
            return NONE;
        }
        switch (what) {
            case 0: return quarter.needs[b];
            case 1: return state.springs[b];
            case 2: return state.sleeps(quarter, b) ? 1 : 0;
            case 3: return state.fillings[b];
            default: return NONE;
        }
    }

    public int now(int what) {
        switch (what) {
            case 0: return state.day;
            case 1: return state.inBag;
            case 2: return state.allSleeping(quarter);
            case 3: return state.allNests(quarter);
            case 4: return state.strokes;
            case 5: return state.cuts;
            case 6: return state.lost;
            default: return NONE;
        }
    }

    public int stroke(int p, int n) {
        if (!isPerson(p) || n < 1 || n > MOST_FORCE) {
            return NONE;
        }
        int why = state.whyNoStroke(quarter, p, n);
        if (why == 0) {
            past.keep(state);
            state.comb(quarter, p, n);
        }
        return why;
    }

    public int cut(int p) {
        if (!isPerson(p)) {
            return NONE;
        }
        int why = state.whyNoCut(p);
        if (why == 0) {
            past.keep(state);
            state.cutOff(p);
        }
        return why;
    }

    public int snag(int p, int t) {
        if (!isPerson(p) || !isThing(t)) {
            return NONE;
        }
        int why = state.whyNoCatch(p);
        if (why == 0) {
            past.keep(state);
            state.catchThing(p, t);
        }
        return why;
    }

    public int stuff(int b, int t) {
        if (!isBed(b) || !isThing(t)) {
            return NONE;
        }
        int why = state.whyNoStuffing(t);
        if (why == 0) {
            past.keep(state);
            state.fillBed(quarter, b, t);
        }
        return why;
    }

    public int days(int n) {
        if (n < 1 || n > MOST_DAYS) {
            return NONE;
        }
        int going = Math.min(n, state.daysLeft());
        if (going > 0) {
            past.keep(state);
            state.letDaysGo(quarter, going);
        }
        return going;
    }

    public int undo() {
        return past.takeBack(state);
    }

    public int ease(int p) {
        return isPerson(p) ? plans.fewestStrokes(quarter, state, p) : NONE;
    }

    public int nests(int p) {
        return isPerson(p) ? plans.daysToNest(quarter, state, p) : NONE;
    }

    public int round(int n) {
        if (n < 0 || n > MOST_ROUND) {
            return NONE;
        }
        lastRounded = plans.bestRound(quarter, state, n);
        return Integer.bitCount(lastRounded);
    }

    public int rounded() {
        return lastRounded;
    }

    public int beds() {
        lastBedded = plans.bestBeds(quarter, state);
        return Integer.bitCount(lastBedded);
    }

    public int bedded() {
        return lastBedded;
    }

    public int fits() {
        int size = tape.length;
        tape.length = 0;
        if (size < 1 || size > NEST) {
            return NONE;
        }
        for (int i = 0; i < size; i++) {
            if (!isThing(tape.bytes[i])) {
                return NONE;
            }
        }
        int who = 0;
        for (int p = 0; p < quarter.persons; p++) {
            if (state.endsWith(p, tape.bytes, size)) {
                who |= 1 << p;
            }
        }
        if (who > 0) {
            lastAsk = plans.bestLayer(quarter, state, who);
        }
        return who;
    }

    public int ask() {
        return lastAsk;
    }

    public int like(int p) {
        if (!isPerson(p)) {
            return NONE;
        }
        int who = 0;
        for (int other = 0; other < quarter.persons; other++) {
            if (other != p && state.alike(p, other)) {
                who |= 1 << other;
            }
        }
        return who;
    }

    public int hardest() {
        int best = NONE;
        int most = NONE;
        for (int p = 0; p < quarter.persons; p++) {
            int holds = state.allHolds(quarter, p);
            if (holds > most) {
                most = holds;
                best = p;
            }
        }
        return best;
    }

    public int mean(int p, int what) throws NoSuchElementException {
        if (!isPerson(p) || what < 0 || what > 1) {
            throw new NoSuchElementException("no such person or number");
        }
        int knots = state.knotsOf(p);
        if (knots < 1) {
            throw new NoSuchElementException("no knots");
        }
        int above = state.allHolds(quarter, p);
        int below = knots;
        for (int d = knots; d > 1; d--) {
            if (above % d == 0 && below % d == 0) {
                above /= d;
                below /= d;
            }
        }
        return what == 0 ? above : below;
    }

    public int tag(int p) {
        if (!isPerson(p)) {
            return NONE;
        }
        tag.write(quarter, state, p);
        return tag.size;
    }

    public int byteAt(int i) {
        return i < 0 || i >= tag.size ? NONE : tag.bytes[i];
    }

    public int drawn(int n, int seed) {
        if (n < 1 || n > MOST_DAYS) {
            return NONE;
        }
        int going = Math.min(n, state.daysLeft());
        if (going > 0) {
            past.keep(state);
            state.letDrawnDaysGo(quarter, going, seed);
        }
        return going;
    }

    public int odds(int p, int n, int seed) {
        if (!isPerson(p) || n < 1 || n > MOST_SEEDS) {
            return NONE;
        }
        int found = 0;
        for (int i = 0; i < n; i++) {
            trial.copyFrom(state);
            trial.letDrawnDaysGo(quarter, Math.min(ODDS_DAYS, trial.daysLeft()), seed + i);
            if (trial.isNest(p)) {
                found++;
            }
        }
        return found;
    }

    public int book(int lives) {
        if (lives < 0 || lives > 1) {
            return OTHER_LIVES;
        }
        book.readFrom(tape, quarter);
        tape.length = 0;
        fault = tape.faultKind;
        if (fault != 0) {
            return -2 - tape.faultPlace;
        }
        trial.copyFrom(state);
        book.live(quarter, trial);
        if (lives == 1 && book.rightLines > 0) {
            past.keep(state);
            state.copyFrom(trial);
        }
        return book.why == 0 ? NONE : book.rightLines;
    }

    public int told(int what) {
        if (!book.wasLived) {
            return NONE;
        }
        switch (what) {
            case 0: return book.why;
            case 1: return book.rightLines;
            case 2: return book.dayThen;
            case 3: return book.bagThen;
            default: return NONE;
        }
    }

    public int sentence() {
        draftSentence.readFrom(tape, quarter);
        tape.length = 0;
        fault = tape.faultKind;
        if (fault != 0) {
            return -1 - tape.faultPlace;
        }
        sentence.copyFrom(draftSentence);
        return sentence.ones;
    }

    public int said(int k) {
        if (sentence.ones == 0 || k < NONE) {
            return NONE;
        }
        int found = 0;
        for (int p = 0; p < quarter.persons; p++) {
            if (sentence.isTrueOf(quarter, state, p)) {
                if (found == k) {
                    return p;
                }
                found++;
            }
        }
        return k == NONE ? found : NONE;
    }

    public boolean image(int k) {
        if (k < 0 || k >= IMAGES || images[k] == null) {
            return false;
        }
        images[k].keep(quarter, state, sentence);
        return true;
    }

    public boolean restore(int k) {
        if (k < 0 || k >= IMAGES || images[k] == null || !images[k].kept) {
            return false;
        }
        images[k].bringBack(quarter, state, sentence);
        past.forget();
        return true;
    }

    public int count(int what) {
        switch (what) {
            case 0: return quarter.things;
            case 1: return quarter.persons;
            case 2: return quarter.dailies;
            case 3: return quarter.beds;
            case 4: return quarter.comb;
            case 5: return tape.length;
            default: return NONE;
        }
    }

    private boolean isPerson(int p) {
        return p >= 0 && p < quarter.persons;
    }

    private boolean isThing(int t) {
        return t >= 0 && t < quarter.things;
    }

    private boolean isBed(int b) {
        return b >= 0 && b < quarter.beds;
    }

    /** The words of the three grammars: none of them may be a NAME. */
    private enum Word {
        THING("thing"), PERSON("person"), CAUGHT("caught"), DAILY("daily"), BED("bed"), COMB("comb"),
        STROKE("stroke"), CUT("cut"), CATCHES("catches"), STUFF("stuff"), DAY("day"),
        OR("or"), AND("and"), NOT("not"), BARE("bare"), NEST("nest"), SORE("sore"), HAS("has"),
        LIKE("like"), KNOTS("knots"), PAIN("pain"), NUMBER("number");

        private static final Word[] ALL = values();

        private final long code;

        Word(String text) {
            code = codeOf(text);
        }

        private static long codeOf(String text) {
            long sum = 0;
            for (int i = 0; i < text.length(); i++) {
                sum = sum << 8 | text.charAt(i);
            }
            return sum;
        }

        static Word of(long code) {
            for (int i = 0; i < ALL.length; i++) {
                if (ALL[i].code == code) {
                    return ALL[i];
                }
            }
            return null;
        }
    }

    /**
     * The tape, and the TOKENS along it: one stands at hand, and a FAULT is told at its place.
     * A WORD is packed into a long, eight bits a letter, so that reading makes no objects.
     */
    private static final class Tape {
        static final int MOST_BYTES = 940;
        static final int END = 0;
        static final int NO_TOKEN = 1;
        static final int WORD = 2;
        static final int NUMBER = 3;
        static final int MOST_LETTERS = 7;
        static final int MOST_DIGITS = 3;

        private final int[] bytes = new int[MOST_BYTES];
        private int length;
        private int limit;
        private int next;
        // END, NO_TOKEN, WORD, NUMBER, or the sign itself.
        private int kind;
        private int place;
        private int number;
        private long code;
        // null: the WORD may be a NAME.
        private Word word;
        private int faultKind;
        private int faultPlace;

        void putNumber(int value) {
            for (int shift = 24; shift >= 0 && length < MOST_BYTES; shift -= 8) {
                bytes[length] = value >>> shift & 255;
                length++;
            }
        }

        void open(int mostBytes) {
            limit = mostBytes;
            next = 0;
            faultKind = 0;
            faultPlace = 0;
            advance();
        }

        void advance() {
            int stop = Math.min(length, limit);
            while (next < stop && (bytes[next] == ' ' || bytes[next] == 10)) {
                next++;
            }
            word = null;
            if (next >= stop) {
                place = stop;
                kind = length > limit ? NO_TOKEN : END;
                return;
            }
            place = next;
            int first = bytes[next];
            scanRun();
            if (kind == WORD) {
                word = Word.of(code);
            } else if (next == place) {
                kind = isSign(first) ? first : NO_TOKEN;
                next++;
            }
        }

        private void scanRun() {
            int letters = 0;
            int digits = 0;
            code = 0;
            number = 0;
            while (next < length) {
                int c = bytes[next];
                if (c >= 'a' && c <= 'z') {
                    letters++;
                    code = code << 8 | c;
                } else if (c >= '0' && c <= '9') {
                    digits++;
                    number = number * 10 + c - '0';
                } else {
                    break;
                }
                next++;
            }
            kind = NO_TOKEN;
            if (digits == 0 && letters >= 1 && letters <= MOST_LETTERS) {
                kind = WORD;
            } else if (letters == 0 && digits >= 1 && digits <= MOST_DIGITS) {
                kind = NUMBER;
            }
        }

        private static boolean isSign(int c) {
            return c == ';' || c == '<' || c == '=' || c == '>' || c == '(' || c == ')';
        }

        boolean isName() {
            return kind == WORD && word == null;
        }

        boolean refuse(int faultKindHere) {
            faultKind = faultKindHere;
            faultPlace = place;
            return false;
        }

        boolean takeSign(int sign) {
            if (kind != sign) {
                return refuse(CANT_COME);
            }
            advance();
            return true;
        }

        int takeNumber(int low, int high) {
            if (kind != NUMBER) {
                refuse(CANT_COME);
                return NONE;
            }
            int value = number;
            if (value < low || value > high) {
                refuse(BAD_NUMBER);
                return NONE;
            }
            advance();
            return value;
        }

        /** The place of the told NAME at hand among the first so many names; NONE, and a FAULT, if it is none. */
        int findName(long[] names, int many) {
            if (!isName()) {
                refuse(CANT_COME);
                return NONE;
            }
            int found = placeIn(names, many);
            if (found == NONE) {
                refuse(BAD_NAME);
            }
            return found;
        }

        int placeIn(long[] names, int many) {
            for (int i = 0; i < many && i < names.length; i++) {
                if (names[i] == code) {
                    return i;
                }
            }
            return NONE;
        }

        int takeName(long[] names, int many) {
            int found = findName(names, many);
            if (found != NONE) {
                advance();
            }
            return found;
        }
    }

    /** What a text tells of a QUARTER; what changes from day to day is in a State. */
    private static final class Quarter {
        static final int MOST_BYTES = 900;
        static final int PLAIN_COMB = 9;

        private int things;
        private final long[] thingNames = new long[MOST_THINGS];
        private final int[] holds = new int[MOST_THINGS];
        private final int[] springs = new int[MOST_THINGS];
        private int persons;
        private final long[] personNames = new long[MOST_PERSONS];
        private final int[] bears = new int[MOST_PERSONS];
        private int dailies;
        private final int[] dailyPersons = new int[MOST_DAILY];
        private final int[] dailyThings = new int[MOST_DAILY];
        private final int[] dailyEvery = new int[MOST_DAILY];
        private int beds;
        private final long[] bedNames = new long[MOST_BEDS];
        private final int[] needs = new int[MOST_BEDS];
        private int comb = PLAIN_COMB;
        // Of a reading under way alone.
        private boolean combTold;

        void copyFrom(Quarter other) {
            things = other.things;
            System.arraycopy(other.thingNames, 0, thingNames, 0, MOST_THINGS);
            System.arraycopy(other.holds, 0, holds, 0, MOST_THINGS);
            System.arraycopy(other.springs, 0, springs, 0, MOST_THINGS);
            persons = other.persons;
            System.arraycopy(other.personNames, 0, personNames, 0, MOST_PERSONS);
            System.arraycopy(other.bears, 0, bears, 0, MOST_PERSONS);
            dailies = other.dailies;
            System.arraycopy(other.dailyPersons, 0, dailyPersons, 0, MOST_DAILY);
            System.arraycopy(other.dailyThings, 0, dailyThings, 0, MOST_DAILY);
            System.arraycopy(other.dailyEvery, 0, dailyEvery, 0, MOST_DAILY);
            beds = other.beds;
            System.arraycopy(other.bedNames, 0, bedNames, 0, MOST_BEDS);
            System.arraycopy(other.needs, 0, needs, 0, MOST_BEDS);
            comb = other.comb;
        }

        /** How many LINES there are; what is caught ahead of the first day goes into start. */
        int readFrom(Tape in, State start) {
            things = 0;
            persons = 0;
            dailies = 0;
            beds = 0;
            comb = PLAIN_COMB;
            combTold = false;
            start.clear();
            in.open(MOST_BYTES);
            int lines = 0;
            while (in.kind != Tape.END && lines < MOST_BYTES) {
                if (!readLine(in, start) || !in.takeSign(';')) {
                    return NONE;
                }
                lines++;
            }
            return lines;
        }

        private boolean readLine(Tape in, State start) {
            if (in.word == Word.THING) {
                return readThing(in);
            }
            if (in.word == Word.PERSON) {
                return readPerson(in);
            }
            if (in.word == Word.CAUGHT) {
                return readCaught(in, start);
            }
            if (in.word == Word.DAILY) {
                return readDaily(in);
            }
            if (in.word == Word.BED) {
                return readBed(in);
            }
            return in.word == Word.COMB ? readComb(in) : in.refuse(CANT_COME);
        }

        private boolean readThing(Tape in) {
            if (things >= MOST_THINGS) {
                return in.refuse(TOO_MANY);
            }
            in.advance();
            if (!isNewName(in)) {
                return false;
            }
            thingNames[things] = in.code;
            in.advance();
            int hold = in.takeNumber(1, 9);
            if (hold == NONE) {
                return false;
            }
            int spring = in.takeNumber(0, 9);
            if (spring == NONE) {
                return false;
            }
            holds[things] = hold;
            springs[things] = spring;
            things++;
            return true;
        }

        private boolean readPerson(Tape in) {
            if (persons >= MOST_PERSONS) {
                return in.refuse(TOO_MANY);
            }
            in.advance();
            if (!isNewName(in)) {
                return false;
            }
            personNames[persons] = in.code;
            in.advance();
            int most = in.takeNumber(1, 99);
            if (most == NONE) {
                return false;
            }
            bears[persons] = most;
            persons++;
            return true;
        }

        private boolean readCaught(Tape in, State start) {
            in.advance();
            int p = in.findName(personNames, persons);
            if (p == NONE) {
                return false;
            }
            if (start.isNest(p)) {
                return in.refuse(TOO_MANY);
            }
            in.advance();
            int t = in.takeName(thingNames, things);
            if (t == NONE) {
                return false;
            }
            start.catchThing(p, t);
            return true;
        }

        private boolean readDaily(Tape in) {
            if (dailies >= MOST_DAILY) {
                return in.refuse(TOO_MANY);
            }
            in.advance();
            int p = in.takeName(personNames, persons);
            if (p == NONE) {
                return false;
            }
            int t = in.takeName(thingNames, things);
            if (t == NONE) {
                return false;
            }
            int every = in.takeNumber(1, 9);
            if (every == NONE) {
                return false;
            }
            dailyPersons[dailies] = p;
            dailyThings[dailies] = t;
            dailyEvery[dailies] = every;
            dailies++;
            return true;
        }

        private boolean readBed(Tape in) {
            if (beds >= MOST_BEDS) {
                return in.refuse(TOO_MANY);
            }
            in.advance();
            if (!isNewName(in)) {
                return false;
            }
            bedNames[beds] = in.code;
            in.advance();
            int need = in.takeNumber(1, 99);
            if (need == NONE) {
                return false;
            }
            needs[beds] = need;
            beds++;
            return true;
        }

        private boolean readComb(Tape in) {
            if (combTold) {
                return in.refuse(BAD_NAME);
            }
            in.advance();
            int most = in.takeNumber(1, MOST_FORCE);
            if (most == NONE) {
                return false;
            }
            comb = most;
            combTold = true;
            return true;
        }

        private boolean isNewName(Tape in) {
            if (!in.isName()) {
                return in.refuse(CANT_COME);
            }
            if (in.placeIn(thingNames, things) != NONE || in.placeIn(personNames, persons) != NONE
                    || in.placeIn(bedNames, beds) != NONE) {
                return in.refuse(BAD_NAME);
            }
            return true;
        }

        boolean catchesOn(int daily, int day) {
            int every = dailyEvery[daily];
            return every > 0 && day % every == 0;
        }
    }

    /** All that is so in a QUARTER at one time. */
    private static final class State {
        // Person p's row: heights[p] things from p * NEST on, the last one outside.
        private final int[] rows = new int[MOST_PERSONS * NEST];
        private final int[] heights = new int[MOST_PERSONS];
        private final int[] pains = new int[MOST_PERSONS];
        private final int[] bag = new int[MOST_THINGS];
        // By THING, in all BEDS together: STILL asks for no more.
        private final int[] stuffed = new int[MOST_THINGS];
        private final int[] springs = new int[MOST_BEDS];
        private final int[] fillings = new int[MOST_BEDS];
        private int inBag;
        private int day;
        private int strokes;
        private int cuts;
        private int lost;
        // Of the draws under way alone: no part of what is so.
        private int seed;

        void clear() {
            for (int p = 0; p < MOST_PERSONS; p++) {
                heights[p] = 0;
                pains[p] = 0;
            }
            for (int t = 0; t < MOST_THINGS; t++) {
                bag[t] = 0;
                stuffed[t] = 0;
            }
            for (int b = 0; b < MOST_BEDS; b++) {
                springs[b] = 0;
                fillings[b] = 0;
            }
            inBag = 0;
            day = 0;
            strokes = 0;
            cuts = 0;
            lost = 0;
        }

        void copyFrom(State other) {
            System.arraycopy(other.rows, 0, rows, 0, MOST_PERSONS * NEST);
            System.arraycopy(other.heights, 0, heights, 0, MOST_PERSONS);
            System.arraycopy(other.pains, 0, pains, 0, MOST_PERSONS);
            System.arraycopy(other.bag, 0, bag, 0, MOST_THINGS);
            System.arraycopy(other.stuffed, 0, stuffed, 0, MOST_THINGS);
            System.arraycopy(other.springs, 0, springs, 0, MOST_BEDS);
            System.arraycopy(other.fillings, 0, fillings, 0, MOST_BEDS);
            inBag = other.inBag;
            day = other.day;
            strokes = other.strokes;
            cuts = other.cuts;
            lost = other.lost;
        }

        int layerAt(int p, int k) {
            return k < 0 || k >= heights[p] ? NONE : rows[p * NEST + k];
        }

        int layerFromOutside(int p, int k) {
            return layerAt(p, heights[p] - 1 - k);
        }

        boolean isNest(int p) {
            return heights[p] >= NEST;
        }

        /** How many things the KNOT has of which the outside one lies right below top; 0, if none does. */
        int knotBelow(int p, int top) {
            int size = 0;
            int outside = p * NEST + top - 1;
            while (size < top && top <= heights[p] && rows[outside - size] == rows[outside]) {
                size++;
            }
            return size;
        }

        int knotsOf(int p) {
            int knots = 0;
            for (int k = 0; k < heights[p]; k++) {
                if (layerAt(p, k) != layerAt(p, k - 1)) {
                    knots++;
                }
            }
            return knots;
        }

        int holdAt(Quarter q, int p, int k) {
            int t = layerAt(p, k);
            return t < 0 || t >= MOST_THINGS ? 0 : q.holds[t];
        }

        int outsideHolds(Quarter q, int p) {
            return knotBelow(p, heights[p]) * holdAt(q, p, heights[p] - 1);
        }

        int allHolds(Quarter q, int p) {
            int sum = 0;
            for (int k = 0; k < heights[p]; k++) {
                sum += holdAt(q, p, k);
            }
            return sum;
        }

        boolean has(int p, int t) {
            for (int k = 0; k < heights[p]; k++) {
                if (layerAt(p, k) == t) {
                    return true;
                }
            }
            return false;
        }

        boolean alike(int p, int other) {
            if (heights[p] != heights[other]) {
                return false;
            }
            for (int k = 0; k < heights[p]; k++) {
                if (layerAt(p, k) != layerAt(other, k)) {
                    return false;
                }
            }
            return true;
        }

        boolean endsWith(int p, int[] part, int size) {
            if (size > heights[p] || size > part.length) {
                return false;
            }
            for (int i = 0; i < size; i++) {
                if (part[i] != layerAt(p, heights[p] - size + i)) {
                    return false;
                }
            }
            return true;
        }

        int whoHas(Quarter q, int t) {
            int who = 0;
            for (int p = 0; p < q.persons; p++) {
                if (has(p, t)) {
                    who |= 1 << p;
                }
            }
            return who;
        }

        int stillOf(Quarter q, int t) {
            int sum = bag[t] + stuffed[t];
            for (int p = 0; p < q.persons; p++) {
                for (int k = 0; k < heights[p]; k++) {
                    if (layerAt(p, k) == t) {
                        sum++;
                    }
                }
            }
            return sum;
        }

        boolean sleeps(Quarter q, int b) {
            return springs[b] >= q.needs[b];
        }

        int allSleeping(Quarter q) {
            int which = 0;
            for (int b = 0; b < q.beds; b++) {
                if (sleeps(q, b)) {
                    which |= 1 << b;
                }
            }
            return which;
        }

        int allNests(Quarter q) {
            int who = 0;
            for (int p = 0; p < q.persons; p++) {
                if (isNest(p)) {
                    who |= 1 << p;
                }
            }
            return who;
        }

        int whyNoStroke(Quarter q, int p, int n) {
            if (heights[p] == 0) {
                return 1;
            }
            if (outsideHolds(q, p) > n) {
                return 2;
            }
            if (n > q.comb) {
                return 3;
            }
            return pains[p] + n > q.bears[p] ? 4 : 0;
        }

        void comb(Quarter q, int p, int n) {
            int left = n;
            for (int i = 0; i < NEST && heights[p] > 0 && outsideHolds(q, p) <= left; i++) {
                left -= outsideHolds(q, p);
                putOutsideKnotIntoBag(p);
            }
            pains[p] += n;
            strokes++;
        }

        private void putOutsideKnotIntoBag(int p) {
            int size = knotBelow(p, heights[p]);
            int t = layerFromOutside(p, 0);
            if (t < 0 || t >= MOST_THINGS) {
                return;
            }
            int kept = Math.min(size, BAG_ROOM - inBag);
            bag[t] += kept;
            inBag += kept;
            lost += size - kept;
            heights[p] -= size;
        }

        int whyNoCut(int p) {
            return heights[p] == 0 ? 1 : 0;
        }

        void cutOff(int p) {
            int size = knotBelow(p, heights[p]);
            heights[p] -= size;
            lost += size;
            cuts++;
        }

        int whyNoCatch(int p) {
            return isNest(p) ? 1 : 0;
        }

        void catchThing(int p, int t) {
            if (heights[p] < NEST) {
                rows[p * NEST + heights[p]] = t;
                heights[p]++;
            }
        }

        int whyNoStuffing(int t) {
            return bag[t] == 0 ? 1 : 0;
        }

        void fillBed(Quarter q, int b, int t) {
            bag[t]--;
            inBag--;
            stuffed[t]++;
            springs[b] += q.springs[t];
            fillings[b]++;
        }

        int daysLeft() {
            return LAST_DAY - day;
        }

        void letDaysGo(Quarter q, int many) {
            for (int i = 0; i < many; i++) {
                letOneDayGo(q);
            }
        }

        private void letOneDayGo(Quarter q) {
            for (int p = 0; p < q.persons; p++) {
                pains[p] = 0;
            }
            for (int d = 0; d < q.dailies; d++) {
                if (q.catchesOn(d, day + 1)) {
                    catchThing(q.dailyPersons[d], q.dailyThings[d]);
                }
            }
            day++;
        }

        void letDrawnDaysGo(Quarter q, int many, int firstSeed) {
            seed = firstSeed;
            for (int i = 0; i < many; i++) {
                for (int p = 0; p < q.persons; p++) {
                    actAsDrawn(q, p);
                }
                letOneDayGo(q);
            }
        }

        private void actAsDrawn(Quarter q, int p) {
            int act = draw(6);
            if (act <= 1) {
                if (q.things > 0) {
                    catchThing(p, draw(q.things));
                }
            } else if (act == 2) {
                int n = draw(MOST_FORCE) + 1;
                if (whyNoStroke(q, p, n) == 0) {
                    comb(q, p, n);
                }
            } else if (act == 3 && whyNoCut(p) == 0) {
                cutOff(p);
            }
        }

        private int draw(int n) {
            seed = seed * 1103515245 + 12345;
            return n < 1 ? 0 : (seed >>> 8) % n;
        }
    }

    /** States as they were ahead of the latest acts, in a ring. */
    private static final class Past {
        static final int MOST_KEPT = 8;

        private final State[] kept = new State[MOST_KEPT];
        private int next;
        private int size;

        Past() {
            for (int i = 0; i < MOST_KEPT; i++) {
                kept[i] = new State();
            }
        }

        void keep(State state) {
            if (kept[next] == null) {
                return;
            }
            kept[next].copyFrom(state);
            next = (next + 1) % MOST_KEPT;
            size = Math.min(size + 1, MOST_KEPT);
        }

        int takeBack(State state) {
            int latest = (next + MOST_KEPT - 1) % MOST_KEPT;
            if (size == 0 || kept[latest] == null) {
                return NONE;
            }
            state.copyFrom(kept[latest]);
            next = latest;
            size--;
            return size;
        }

        void forget() {
            size = 0;
        }
    }

    private static final class Image {
        private final Quarter quarter = new Quarter();
        private final State state = new State();
        private final Sentence sentence = new Sentence();
        private boolean kept;

        void keep(Quarter q, State s, Sentence told) {
            quarter.copyFrom(q);
            state.copyFrom(s);
            sentence.copyFrom(told);
            kept = true;
        }

        void bringBack(Quarter q, State s, Sentence told) {
            q.copyFrom(quarter);
            s.copyFrom(state);
            told.copyFrom(sentence);
        }
    }

    /** What could be done best; nothing is changed by it. */
    private static final class Plans {
        static final int NESTS_WITHIN = 99;
        // A fill is below 128: NEEDS are 99 at most, and a bed that has enough is left.
        static final int FILL_BITS = 7;
        static final int FILL_MASK = 127;

        // By things of the bag as bits: how many wanted beds they fill, one behind another, and how far the next.
        private final int[] filled = new int[1 << BAG_ROOM];
        private final int[] bagSprings = new int[BAG_ROOM];
        private int bagSize;
        private int bagSpring;
        // As bits: things of the bag like the one ahead of them.
        private int bagLike;
        private final int[] missing = new int[MOST_BEDS];
        private final int[] costs = new int[MOST_PERSONS];

        /**
         * A STROKE of just what its KNOTS hold wastes no force, so that the fewest come by
         * drawing as many KNOTS at a time as the comb can, for what they all hold together.
         */
        int fewestStrokes(Quarter q, State s, int p) {
            if (s.allHolds(q, p) > q.bears[p] - s.pains[p]) {
                return NONE;
            }
            int strokes = 0;
            int left = 0;
            int top = s.heights[p];
            for (int i = 0; i < NEST && top > 0; i++) {
                int size = s.knotBelow(p, top);
                int holds = size * s.holdAt(q, p, top - 1);
                if (holds > q.comb) {
                    return NONE;
                }
                if (holds > left) {
                    strokes++;
                    left = q.comb;
                }
                left -= holds;
                top -= size;
            }
            return strokes;
        }

        int daysToNest(Quarter q, State s, int p) {
            int height = s.heights[p];
            for (int days = 0; days <= NESTS_WITHIN; days++) {
                if (days > 0) {
                    height += caughtOn(q, p, s.day + days);
                }
                if (height >= NEST) {
                    return days;
                }
            }
            return NONE;
        }

        private int caughtOn(Quarter q, int p, int day) {
            int caught = 0;
            for (int d = 0; d < q.dailies; d++) {
                if (q.dailyPersons[d] == p && q.catchesOn(d, day)) {
                    caught++;
                }
            }
            return caught;
        }

        int bestRound(Quarter q, State s, int force) {
            for (int p = 0; p < q.persons; p++) {
                boolean can = s.heights[p] > 0 && fewestStrokes(q, s, p) != NONE;
                costs[p] = can ? s.allHolds(q, p) : NONE;
            }
            int best = 0;
            int bestCost = 0;
            for (int who = 1; who < 1 << q.persons; who++) {
                int cost = roundCost(q, who);
                int more = Integer.bitCount(who) - Integer.bitCount(best);
                if (cost != NONE && cost <= force && (more > 0 || more == 0 && cost < bestCost)) {
                    best = who;
                    bestCost = cost;
                }
            }
            return best;
        }

        private int roundCost(Quarter q, int who) {
            int sum = 0;
            for (int p = 0; p < q.persons; p++) {
                if ((who >> p & 1) == 1) {
                    if (costs[p] == NONE) {
                        return NONE;
                    }
                    sum += costs[p];
                }
            }
            return sum;
        }

        int bestBeds(Quarter q, State s) {
            listBag(q, s);
            int sleeping = s.allSleeping(q);
            int best = sleeping;
            for (int which = 0; which < 1 << q.beds; which++) {
                boolean more = Integer.bitCount(which) > Integer.bitCount(best);
                if (more && (which & sleeping) == sleeping && canFill(q, s, which)) {
                    best = which;
                }
            }
            return best;
        }

        private void listBag(Quarter q, State s) {
            bagSize = 0;
            bagSpring = 0;
            bagLike = 0;
            for (int t = 0; t < q.things; t++) {
                for (int i = 0; i < s.bag[t] && bagSize < BAG_ROOM; i++) {
                    bagSprings[bagSize] = q.springs[t];
                    bagSpring += q.springs[t];
                    bagLike |= i > 0 ? 1 << bagSize : 0;
                    bagSize++;
                }
            }
        }

        private boolean canFill(Quarter q, State s, int which) {
            int wanted = 0;
            int missingInAll = 0;
            for (int b = 0; b < q.beds; b++) {
                if ((which >> b & 1) == 1 && !s.sleeps(q, b)) {
                    missing[wanted] = q.needs[b] - s.springs[b];
                    missingInAll += missing[wanted];
                    wanted++;
                }
            }
            // Spares the long search where nothing could come of it.
            return missingInAll <= bagSpring && mostFilled(wanted) >= wanted;
        }

        private int mostFilled(int wanted) {
            filled[0] = 0;
            int all = (1 << bagSize) - 1;
            for (int things = 1; things <= all; things++) {
                if (takesFirstOfLikeOnes(things)) {
                    filled[things] = bestFill(things, wanted);
                }
            }
            return filled[all] >> FILL_BITS;
        }

        /** Of like things it does not matter which are taken, so that all other ways are left out. */
        private boolean takesFirstOfLikeOnes(int things) {
            return (things & bagLike & ~(things << 1)) == 0;
        }

        private int bestFill(int things, int wanted) {
            int most = 0;
            for (int i = 0; i < bagSize; i++) {
                int others = things & ~(1 << i);
                if (others != things && takesFirstOfLikeOnes(others)) {
                    most = Math.max(most, fillOn(filled[others], bagSprings[i], wanted));
                }
            }
            return most;
        }

        private int fillOn(int soFar, int spring, int wanted) {
            int bedsFull = soFar >> FILL_BITS;
            if (bedsFull >= wanted || bedsFull >= MOST_BEDS) {
                return soFar;
            }
            int fill = (soFar & FILL_MASK) + spring;
            return fill >= missing[bedsFull] ? bedsFull + 1 << FILL_BITS : bedsFull << FILL_BITS | fill;
        }

        int bestLayer(Quarter q, State s, int who) {
            int best = 0;
            int bestLeft = MOST_PERSONS + 1;
            for (int k = 0; k < NEST; k++) {
                int left = mostLeft(q, s, who, k);
                if (left < bestLeft) {
                    best = k;
                    bestLeft = left;
                }
            }
            return best;
        }

        private int mostLeft(Quarter q, State s, int who, int k) {
            int most = 0;
            for (int p = 0; p < q.persons; p++) {
                int same = 0;
                for (int other = 0; other < q.persons; other++) {
                    boolean both = (who >> p & 1) == 1 && (who >> other & 1) == 1;
                    if (both && s.layerFromOutside(p, k) == s.layerFromOutside(other, k)) {
                        same++;
                    }
                }
                most = Math.max(most, same);
            }
            return most;
        }
    }

    private static final class Tag {
        // A NAME, and eight times a blank and a NAME; a digit takes the room of a thing more.
        static final int MOST_BYTES = Tape.MOST_LETTERS + NEST * (Tape.MOST_LETTERS + 2);

        private final int[] bytes = new int[MOST_BYTES];
        private int size;

        void write(Quarter q, State s, int p) {
            size = 0;
            putName(q.personNames[p]);
            if (s.heights[p] == 0) {
                put(' ');
                putName(Word.BARE.code);
            }
            int alike = 0;
            for (int k = 0; k < s.heights[p]; k++) {
                int t = s.layerAt(p, k);
                alike++;
                if (t != s.layerAt(p, k + 1)) {
                    putKnot(q, t, alike);
                    alike = 0;
                }
            }
        }

        private void putKnot(Quarter q, int t, int many) {
            if (t < 0 || t >= MOST_THINGS) {
                return;
            }
            put(' ');
            putName(q.thingNames[t]);
            if (many > 1) {
                put('0' + many);
            }
        }

        private void putName(long code) {
            for (int shift = 8 * (Tape.MOST_LETTERS - 1); shift >= 0; shift -= 8) {
                int letter = (int) (code >>> shift & 255);
                if (letter != 0) {
                    put(letter);
                }
            }
        }

        private void put(int b) {
            if (size < MOST_BYTES) {
                bytes[size] = b;
                size++;
            }
        }
    }

    /** A BOOK as read, and what came of it when it was last lived through. */
    private static final class Book {
        static final int MOST_BYTES = 400;
        static final int MOST_LINES = 40;
        static final int WRONG_CUT = 10;
        static final int WRONG_CATCH = 20;
        static final int WRONG_STUFFING = 30;
        static final int WRONG_DAYS = 41;

        private final Word[] acts = new Word[MOST_LINES];
        // Of a LINE: the PERSON or BED, and the THING or number.
        private final int[] whom = new int[MOST_LINES];
        private final int[] withWhat = new int[MOST_LINES];
        private int lines;
        private boolean wasLived;
        private int why;
        private int rightLines;
        private int dayThen;
        private int bagThen;

        void readFrom(Tape in, Quarter q) {
            lines = 0;
            in.open(MOST_BYTES);
            boolean good = true;
            for (int i = 0; i < MOST_BYTES && good && in.kind != Tape.END; i++) {
                good = readLine(in, q) && in.takeSign(';');
            }
        }

        private boolean readLine(Tape in, Quarter q) {
            boolean forPerson = in.word != Word.STUFF && in.word != Word.DAY;
            int p = forPerson ? in.findName(q.personNames, q.persons) : 0;
            if (p == NONE) {
                return false;
            }
            if (lines >= MOST_LINES) {
                return in.refuse(TOO_MANY);
            }
            Word act = in.word;
            in.advance();
            if (act == Word.STUFF) {
                return readStuffing(in, q);
            }
            if (act == Word.DAY) {
                return addLine(Word.DAY, 0, in.takeNumber(1, MOST_DAYS));
            }
            return readOfPerson(in, q, p);
        }

        private boolean readStuffing(Tape in, Quarter q) {
            int b = in.takeName(q.bedNames, q.beds);
            if (b == NONE) {
                return false;
            }
            return addLine(Word.STUFF, b, in.takeName(q.thingNames, q.things));
        }

        private boolean readOfPerson(Tape in, Quarter q, int p) {
            Word act = in.word;
            if (act != Word.STROKE && act != Word.CUT && act != Word.CATCHES) {
                return in.refuse(CANT_COME);
            }
            in.advance();
            if (act == Word.STROKE) {
                return addLine(act, p, in.takeNumber(1, MOST_FORCE));
            }
            return addLine(act, p, act == Word.CUT ? 0 : in.takeName(q.thingNames, q.things));
        }

        private boolean addLine(Word act, int who, int what) {
            if (what == NONE || lines >= MOST_LINES) {
                return false;
            }
            acts[lines] = act;
            whom[lines] = who;
            withWhat[lines] = what;
            lines++;
            return true;
        }

        void live(Quarter q, State s) {
            why = 0;
            rightLines = 0;
            for (int i = 0; i < lines && why == 0; i++) {
                why = liveLine(q, s, i);
                if (why == 0) {
                    rightLines++;
                }
            }
            dayThen = s.day;
            bagThen = s.inBag;
            wasLived = true;
        }

        private int liveLine(Quarter q, State s, int line) {
            int who = whom[line];
            int what = withWhat[line];
            if (acts[line] == Word.STROKE) {
                return liveStroke(q, s, who, what);
            }
            if (acts[line] == Word.CUT) {
                return liveCut(s, who);
            }
            if (acts[line] == Word.CATCHES) {
                return liveCatch(s, who, what);
            }
            if (acts[line] == Word.STUFF) {
                return liveStuffing(q, s, who, what);
            }
            if (what > s.daysLeft()) {
                return WRONG_DAYS;
            }
            s.letDaysGo(q, what);
            return 0;
        }

        private int liveStroke(Quarter q, State s, int p, int n) {
            int reason = s.whyNoStroke(q, p, n);
            if (reason == 0) {
                s.comb(q, p, n);
            }
            return reason;
        }

        private int liveCut(State s, int p) {
            int reason = s.whyNoCut(p);
            if (reason != 0) {
                return WRONG_CUT + reason;
            }
            s.cutOff(p);
            return 0;
        }

        private int liveCatch(State s, int p, int t) {
            int reason = s.whyNoCatch(p);
            if (reason != 0) {
                return WRONG_CATCH + reason;
            }
            s.catchThing(p, t);
            return 0;
        }

        private int liveStuffing(Quarter q, State s, int b, int t) {
            int reason = s.whyNoStuffing(t);
            if (reason != 0) {
                return WRONG_STUFFING + reason;
            }
            s.fillBed(q, b, t);
            return 0;
        }
    }

    /** A SENTENCE, kept as steps over a pile of truths: each ONE behind what it is of. */
    private static final class Sentence {
        static final int MOST_BYTES = 200;
        static final int MOST_ONES = 20;
        static final int MOST_WITHIN = 8;
        static final int MOST_NUMBER = 999;
        // Every ONE and every 'and', 'or' between two of them.
        static final int MOST_STEPS = 2 * MOST_ONES;

        private final Word[] steps = new Word[MOST_STEPS];
        private final int[] signs = new int[MOST_STEPS];
        private final int[] values = new int[MOST_STEPS];
        private int size;
        // 0: there is no SENTENCE.
        private int ones;

        void forget() {
            size = 0;
            ones = 0;
        }

        void copyFrom(Sentence other) {
            for (int i = 0; i < MOST_STEPS; i++) {
                steps[i] = other.steps[i];
            }
            System.arraycopy(other.signs, 0, signs, 0, MOST_STEPS);
            System.arraycopy(other.values, 0, values, 0, MOST_STEPS);
            size = other.size;
            ones = other.ones;
        }

        void readFrom(Tape in, Quarter q) {
            forget();
            in.open(MOST_BYTES);
            if (readCond(in, q, 1) && in.kind != Tape.END) {
                in.refuse(CANT_COME);
            }
        }

        private boolean readCond(Tape in, Quarter q, int depth) {
            boolean good = readOne(in, q, depth);
            // An 'or' waits until what is behind it has been read, for 'and' binds closer.
            boolean orWaits = false;
            for (int i = 0; i < MOST_ONES && good && (in.word == Word.AND || in.word == Word.OR); i++) {
                boolean and = in.word == Word.AND;
                if (!and && orWaits) {
                    addStep(Word.OR, 0, 0);
                }
                orWaits = orWaits || !and;
                in.advance();
                good = readOne(in, q, depth);
                if (and) {
                    addStep(Word.AND, 0, 0);
                }
            }
            if (orWaits) {
                addStep(Word.OR, 0, 0);
            }
            return good;
        }

        private boolean readOne(Tape in, Quarter q, int depth) {
            if (in.kind != '(' && !beginsOne(in.word)) {
                return in.refuse(CANT_COME);
            }
            if (ones >= MOST_ONES || depth > MOST_WITHIN) {
                return in.refuse(TOO_MANY);
            }
            ones++;
            boolean bracket = in.kind == '(';
            Word first = in.word;
            in.advance();
            if (bracket) {
                return readCond(in, q, depth + 1) && in.takeSign(')');
            }
            if (first == Word.NOT) {
                boolean good = readOne(in, q, depth + 1);
                addStep(Word.NOT, 0, 0);
                return good;
            }
            return readPlain(in, q, first);
        }

        private static boolean beginsOne(Word word) {
            return word == Word.NOT || word == Word.BARE || word == Word.NEST || word == Word.SORE
                || word == Word.HAS || word == Word.LIKE || isMeasured(word);
        }

        private static boolean isMeasured(Word word) {
            return word == Word.CAUGHT || word == Word.KNOTS || word == Word.PAIN || word == Word.NUMBER;
        }

        private boolean readPlain(Tape in, Quarter q, Word first) {
            if (first == Word.HAS) {
                int t = in.takeName(q.thingNames, q.things);
                addStep(first, 0, t);
                return t != NONE;
            }
            if (first == Word.LIKE) {
                int p = in.takeName(q.personNames, q.persons);
                addStep(first, 0, p);
                return p != NONE;
            }
            if (!isMeasured(first)) {
                addStep(first, 0, 0);
                return true;
            }
            int sign = in.kind;
            if (sign != '<' && sign != '=' && sign != '>') {
                return in.refuse(CANT_COME);
            }
            in.advance();
            int value = in.takeNumber(0, MOST_NUMBER);
            addStep(first, sign, value);
            return value != NONE;
        }

        /** Steps of a text that turns out to have a FAULT do no harm: it is never said. */
        private void addStep(Word step, int sign, int value) {
            if (size < MOST_STEPS) {
                steps[size] = step;
                signs[size] = sign;
                values[size] = value;
                size++;
            }
        }

        boolean isTrueOf(Quarter q, State s, int p) {
            // The pile of truths as bits, the latest one lowest: 20 ONES leave it room.
            int pile = 0;
            for (int i = 0; i < size; i++) {
                int latest = pile & 1;
                if (steps[i] == Word.NOT) {
                    pile ^= 1;
                } else if (steps[i] == Word.AND) {
                    pile = pile >> 1 & (latest | ~1);
                } else if (steps[i] == Word.OR) {
                    pile = pile >> 1 | latest;
                } else {
                    pile = pile << 1 | (isPlainTrue(q, s, p, i) ? 1 : 0);
                }
            }
            return (pile & 1) == 1;
        }

        private boolean isPlainTrue(Quarter q, State s, int p, int i) {
            Word step = steps[i];
            if (step == Word.BARE) {
                return s.heights[p] == 0;
            }
            if (step == Word.NEST) {
                return s.isNest(p);
            }
            if (step == Word.SORE) {
                return s.pains[p] >= q.bears[p];
            }
            if (step == Word.HAS) {
                return s.has(p, values[i]);
            }
            if (step == Word.LIKE) {
                return s.alike(p, values[i]);
            }
            int measure = measureOf(step, s, p);
            if (signs[i] == '<') {
                return measure < values[i];
            }
            return signs[i] == '=' ? measure == values[i] : measure > values[i];
        }

        private static int measureOf(Word what, State s, int p) {
            if (what == Word.CAUGHT) {
                return s.heights[p];
            }
            if (what == Word.KNOTS) {
                return s.knotsOf(p);
            }
            return what == Word.PAIN ? s.pains[p] : p;
        }
    }
}
