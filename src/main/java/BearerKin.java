import java.util.Arrays;

/**
 * A county whose kin keep a standard up. The document's promises are kept by small helpers, one a kind of
 * question; all of them ask Hours what an hour brings, and lay their work on one shared Desk.
 */
public final class BearerKin {
    public static final int NONE = -1;

    private static final int NO_SUCH = -2;
    private static final int BAD_NUMBER = -3;
    private static final int TOO_MANY = -4;
    private static final int NOT_NOW = -5;
    private static final int MISSING = -6;
    private static final int NO_NUMBER = -7;
    private static final int WHY_NOT = -10;
    private static final int FAULTY = -30;

    private static final int MOST_PLACES = 5;
    private static final int MOST_KIN = 3;
    private static final int MOST_STRENGTH = 3;
    private static final int WEATHERS = 10;

    private static final int REST = 0;
    private static final int HAND = 10;
    private static final int MEAL = 20;
    private static final int WEATHER = 30;
    private static final int GO = 100;
    private static final int LAST_GO = 199;

    private static final int TRAYS = 4;
    private static final int TRAY_SIZE = 40;
    private static final int UNDOABLE = 10;
    private static final int UNDO_PARTS = 3;
    private static final int IMAGES = 2;
    private static final int MOST_SEEN = 8;
    private static final int MOST_LOTS = 6;
    private static final int MOST_TIMES = 40;

    private final Tokens tokens;
    private final Reader reader;
    private final Hours hours;
    private final Coming coming;
    private final Keeping keeper;
    private final Rows paths;
    private final Beast beast;
    private final Told told;
    private final Moment now;
    private final Moment trial;
    private final Moment[] images;
    private final int[] past;
    private int undoable;
    private final long[] trayNumbers;
    private final int[] traySizes;
    private final int[] traySorts;
    private int faultKind;
    private int faultAt;

    public BearerKin() {
        tokens = new Tokens();
        reader = new Reader(tokens);
        County empty = new County(reader);
        hours = new Hours(empty);
        Desk desk = new Desk();
        coming = new Coming(empty);
        keeper = new Keeping(desk, empty);
        paths = new Rows(desk);
        beast = new Beast(desk, empty);
        told = new Told();
        now = new Moment(empty);
        trial = new Moment(empty);
        images = new Moment[IMAGES];
        past = new int[UNDOABLE * UNDO_PARTS];
        trayNumbers = new long[TRAYS * TRAY_SIZE];
        traySizes = new int[TRAYS];
        Arrays.fill(traySizes, NONE);
        traySorts = new int[TRAYS];
        faultAt = NONE;
    }

    // ---- the county

    public int feed(int a, int b, int c, int d, int e) {
        if (!tokens.hasRoom(20)) {
            return NOT_NOW;
        }
        tokens.put(a);
        tokens.put(b);
        tokens.put(c);
        tokens.put(d);
        tokens.put(e);
        return tokens.taped;
    }

    public int county(int n) {
        if (n < 0 || n > tokens.taped) {
            return BAD_NUMBER;
        }
        faultKind = reader.read(n);
        faultAt = tokens.faultAt;
        tokens.taped = 0;
        if (faultKind != 0) {
            return FAULTY - faultKind;
        }
        now.begin(new County(reader));
        undoable = 0;
        return now.county.lines;
    }

    public int fault(int what) {
        switch (what) {
            case 0:
                return faultKind;
            case 1:
                return faultAt;
            default:
                return NONE;
        }
    }

    public int place(int k, int what) {
        if (!isPlace(k)) {
            return NO_SUCH;
        }
        switch (what) {
            case 0:
                return now.county.heights[k];
            case 1:
                return now.county.ways[k];
            case 2:
                return now.county.kinAt(now.stand, k);
            default:
                return NO_SUCH;
        }
    }

    public int kin(int p, int what) {
        if (!isKin(p)) {
            return NO_SUCH;
        }
        switch (what) {
            case 0:
                return now.county.placeOf(now.stand, p);
            case 1:
                return now.county.ages[p];
            case 2:
                return now.county.strengthOf(now.stand, p);
            case 3:
                return now.county.bearerOf(now.stand) == p ? 1 : 0;
            default:
                return NO_SUCH;
        }
    }

    public int why(int deed) {
        hours.use(now.county, now.sky);
        return hours.whyNot(now.stand, deed);
    }

    public int by(int deed, int p) {
        if (!isKin(p)) {
            return NO_SUCH;
        }
        hours.use(now.county, now.sky);
        int behind = hours.after(now.stand, deed);
        return behind == NONE ? NOT_NOW : now.county.strengthOf(behind, p);
    }

    // ---- deeds

    public int hour(int deed) {
        hours.use(now.county, now.sky);
        int cause = hours.whyNot(now.stand, deed);
        if (cause != 0) {
            return WHY_NOT - cause;
        }
        remember(now);
        now.act(hours, deed);
        return now.isDown() ? 0 : 1;
    }

    public int meal(int p) {
        if (!isKin(p)) {
            return WHY_NOT - 1;
        }
        remember(now);
        int was = now.county.strengthOf(now.stand, p);
        now.act(hours, MEAL + p);
        return was;
    }

    public int weather(int n) {
        if (n < 0 || n >= WEATHERS) {
            return WHY_NOT - 1;
        }
        remember(now);
        int was = now.sky;
        now.act(hours, WEATHER + n);
        return was;
    }

    public int undo(int n) {
        if (n < 1 || n > undoable) {
            return BAD_NUMBER;
        }
        undoable -= n;
        int at = undoable * UNDO_PARTS;
        now.stand = past[at];
        now.sky = past[at + 1];
        now.hours = past[at + 2];
        return undoable;
    }

    public int judge(int tray, int what) {
        if (!isTray(tray) || what < 0 || what > 3) {
            return NO_SUCH;
        }
        if (traySizes[tray] == NONE) {
            return MISSING;
        }
        trial.take(now);
        int done = actAll(trial, tray);
        boolean all = done == traySizes[tray];
        switch (what) {
            case 0:
                return all ? NONE : done;
            case 1:
                return all ? 0 : trial.act(hours, numberOf(tray, done));
            case 2:
                return trial.county.where(trial.stand);
            default:
                return trial.county.bearing(trial.stand);
        }
    }

    public int perform(int tray) {
        if (!isTray(tray)) {
            return NO_SUCH;
        }
        if (traySizes[tray] == NONE) {
            return MISSING;
        }
        trial.take(now);
        int done = actAll(now, tray);
        if (done > 0) {
            remember(trial);
        }
        return done;
    }

    public int century(int seed, int times) {
        if (times < 1 || times > MOST_TIMES) {
            return BAD_NUMBER;
        }
        trial.take(now);
        told.sow(seed);
        int done = 0;
        for (int i = 0; i < times; i++) {
            if (now.act(hours, told.drawDeed()) == 0) {
                done++;
            }
        }
        if (done > 0) {
            remember(trial);
        }
        return done;
    }

    // ---- kept up

    public int up() {
        if (now.isDown()) {
            return NOT_NOW;
        }
        hours.use(now.county, now.sky);
        return keeper.longest(hours, now.stand);
    }

    public int keeping(int i) {
        if (i < 0 || i > 99) {
            return BAD_NUMBER;
        }
        if (now.isDown()) {
            return NOT_NOW;
        }
        hours.use(now.county, now.sky);
        return keeper.deedAt(hours, now.stand, i);
    }

    public long rows(int n) {
        if (n < 0 || n > MOST_SEEN) {
            return BAD_NUMBER;
        }
        if (now.isDown()) {
            return NOT_NOW;
        }
        hours.use(now.county, now.sky);
        paths.expectAny(n);
        return paths.total(hours, now.stand);
    }

    public int needed(int n) {
        if (n < 1 || n > 20) {
            return BAD_NUMBER;
        }
        if (now.isDown()) {
            return NOT_NOW;
        }
        hours.use(now.county, now.sky);
        int longest = keeper.longest(hours, now.stand);
        if (longest != NONE && longest < n) {
            return 0;
        }
        int bits = 0;
        for (int q = 0; q < now.county.kin; q++) {
            int without = keeper.longestWithout(hours, now.stand, q);
            if (without != NONE && without < n) {
                bits |= 1 << q;
            }
        }
        return bits;
    }

    // ---- coming

    public int soonest(int k, int p) {
        if (!isAim(k, p)) {
            return NO_SUCH;
        }
        int end = come(k, p);
        return end == NONE ? NONE : coming.length(end);
    }

    public int way(int k, int p, int i) {
        if (!isAim(k, p)) {
            return NO_SUCH;
        }
        if (i < 0) {
            return BAD_NUMBER;
        }
        int end = come(k, p);
        return end == NONE ? NONE : coming.deedAt(end, i);
    }

    public int reach() {
        hours.use(now.county, now.sky);
        coming.start(hours, now.stand);
        return coming.bits(hours, false);
    }

    public int bearers() {
        hours.use(now.county, now.sky);
        coming.start(hours, now.stand);
        return coming.bits(hours, true);
    }

    public int stands() {
        hours.use(now.county, now.sky);
        coming.start(hours, now.stand);
        return coming.all(hours);
    }

    // ---- seen

    public long seen(int tray) {
        int refusal = expectSeen(tray, 0);
        if (refusal != 0) {
            return refusal;
        }
        return paths.total(hours, now.stand);
    }

    public int seenBy(int tray, int i) {
        int refusal = expectSeen(tray, i);
        if (refusal != 0) {
            return refusal;
        }
        return i >= traySizes[tray] ? NONE : paths.deedAt(hours, now.stand, i);
    }

    public int suspects(int tray, int i) {
        int refusal = expectSeen(tray, i);
        if (refusal != 0) {
            return refusal;
        }
        return i >= traySizes[tray] ? NO_NUMBER : paths.bearersAt(hours, now.stand, i);
    }

    // ---- tired

    public int weathers(int tray) {
        int refusal = expectTired(tray);
        if (refusal != 0) {
            return refusal;
        }
        return told.skies(hours, now.stand);
    }

    public int attempt(int tray) {
        int refusal = expectTired(tray);
        if (refusal != 0) {
            return refusal;
        }
        int skies = told.skies(hours, now.stand);
        return skies == 0 ? NONE : told.bestTrial(hours, now.stand, skies);
    }

    // ---- the beast

    public int lasts() {
        if (now.isDown()) {
            return NOT_NOW;
        }
        hours.use(now.county, now.sky);
        beast.solve(hours, now.stand);
        return beast.longest(now.stand);
    }

    public int best() {
        if (now.isDown()) {
            return NOT_NOW;
        }
        hours.use(now.county, now.sky);
        beast.solve(hours, now.stand);
        return beast.firstDeed(hours, now.stand);
    }

    // ---- chances

    public int chance(int tray, int what) {
        int refusal = expectLots(tray, what);
        if (refusal != 0) {
            return refusal;
        }
        told.drawAll(hours, now.stand);
        return told.inLowestTerms(told.upWeight, what);
    }

    public int mean(int tray, int what) {
        int refusal = expectLots(tray, what);
        if (refusal != 0) {
            return refusal;
        }
        told.drawAll(hours, now.stand);
        return told.inLowestTerms(told.strengthWeight, what);
    }

    // ---- trays, images

    public int numbers(int tray, int sort, int n) {
        if (!isTray(tray) || sort < 0 || sort > 3) {
            return NO_SUCH;
        }
        if (n < 0 || n > TRAY_SIZE) {
            return BAD_NUMBER;
        }
        traySizes[tray] = n;
        traySorts[tray] = sort;
        int at = tray * TRAY_SIZE;
        Arrays.fill(trayNumbers, at, at + n, 0L);
        return 0;
    }

    public long write(int tray, int i, long v) {
        if (!isTray(tray)) {
            return NO_SUCH;
        }
        if (traySizes[tray] == NONE) {
            return MISSING;
        }
        if (i < 0 || i >= traySizes[tray]) {
            return NO_NUMBER;
        }
        return store(tray, i, v);
    }

    public int lists(int tray, int k, int p) {
        if (!isTray(tray) || !isAim(k, p)) {
            return NO_SUCH;
        }
        if (traySizes[tray] == NONE) {
            return MISSING;
        }
        int end = come(k, p);
        if (end == NONE) {
            return NOT_NOW;
        }
        int many = Math.min(coming.length(end), traySizes[tray]);
        for (int i = 0; i < many; i++) {
            store(tray, i, coming.deedAt(end, i));
        }
        return many;
    }

    public int image(int i) {
        if (i < 0 || i >= IMAGES) {
            return NO_SUCH;
        }
        Moment made = images[i];
        if (made == null) {
            made = new Moment(now.county);
            images[i] = made;
        }
        made.take(now);
        return 0;
    }

    public int restore(int i) {
        if (i < 0 || i >= IMAGES) {
            return NO_SUCH;
        }
        Moment made = images[i];
        if (made == null) {
            return NOT_NOW;
        }
        now.take(made);
        undoable = 0;
        return 0;
    }

    public int count(int what) {
        switch (what) {
            case 0:
                return now.county.places;
            case 1:
                return now.county.kin;
            case 2:
                return now.county.kin == 0 ? NONE : now.county.bearerOf(now.stand);
            case 3:
                return now.county.where(now.stand);
            case 4:
                return now.county.together(now.stand);
            case 5:
                return now.isDown() ? 1 : 0;
            case 6:
                return now.sky;
            case 7:
                return now.hours;
            case 8:
                return undoable;
            case 9:
                return tokens.taped;
            case 10:
                return now.county.lines;
            default:
                return NONE;
        }
    }

    // ---- what several calls share

    private boolean isPlace(int k) {
        return k >= 0 && k < now.county.places;
    }

    private boolean isKin(int p) {
        return p >= 0 && p < now.county.kin;
    }

    private boolean isTray(int tray) {
        return tray >= 0 && tray < TRAYS;
    }

    private boolean isAim(int k, int p) {
        return isPlace(k) && (p == NONE || isKin(p));
    }

    /** The stand where a coming ends, or NONE. */
    private int come(int k, int p) {
        hours.use(now.county, now.sky);
        coming.start(hours, now.stand);
        return coming.find(hours, k, p);
    }

    private long numberOf(int tray, int i) {
        return trayNumbers[tray * TRAY_SIZE + i];
    }

    private long store(int tray, int i, long v) {
        long cut = v;
        switch (traySorts[tray]) {
            case 0:
                cut = (byte) v;
                break;
            case 1:
                cut = (short) v;
                break;
            case 2:
                cut = (int) v;
                break;
            default:
                break;
        }
        trayNumbers[tray * TRAY_SIZE + i] = cut;
        return cut;
    }

    /** Does the deeds of a tray till one can't be: how many. */
    private int actAll(Moment moment, int tray) {
        for (int i = 0; i < traySizes[tray]; i++) {
            if (moment.act(hours, numberOf(tray, i)) != 0) {
                return i;
            }
        }
        return traySizes[tray];
    }

    private void remember(Moment moment) {
        if (undoable == UNDOABLE) {
            System.arraycopy(past, UNDO_PARTS, past, 0, past.length - UNDO_PARTS);
            undoable--;
        }
        int at = undoable * UNDO_PARTS;
        past[at] = moment.stand;
        past[at + 1] = moment.sky;
        past[at + 2] = moment.hours;
        undoable++;
    }

    /** Why a tray can't be of 1 to most numbers from low to high: a code, or 0. */
    private int refuseTray(int tray, int most, int low, int high) {
        if (!isTray(tray)) {
            return NO_SUCH;
        }
        if (traySizes[tray] == NONE) {
            return MISSING;
        }
        if (traySizes[tray] < 1 || traySizes[tray] > most) {
            return TOO_MANY;
        }
        for (int i = 0; i < traySizes[tray]; i++) {
            if (numberOf(tray, i) < low || numberOf(tray, i) > high) {
                return BAD_NUMBER;
            }
        }
        return 0;
    }

    private int expectSeen(int tray, int i) {
        int refusal = refuseTray(tray, MOST_SEEN, NONE, now.county.places - 1);
        if (refusal != 0) {
            return refusal;
        }
        if (i < 0) {
            return BAD_NUMBER;
        }
        paths.expectAny(traySizes[tray]);
        for (int j = 0; j < traySizes[tray]; j++) {
            paths.expect(j, (int) numberOf(tray, j));
        }
        hours.use(now.county, now.sky);
        return 0;
    }

    private int expectTired(int tray) {
        int refusal = refuseTray(tray, MOST_SEEN, 0, MOST_STRENGTH);
        if (refusal != 0) {
            return refusal;
        }
        if (now.county.kin == 0) {
            return NOT_NOW;
        }
        told.expectMany(traySizes[tray]);
        for (int j = 0; j < traySizes[tray]; j++) {
            told.expect(j, (int) numberOf(tray, j));
        }
        hours.use(now.county, now.sky);
        return 0;
    }

    private int expectLots(int tray, int what) {
        if (!isTray(tray) || what < 0 || what > 1) {
            return NO_SUCH;
        }
        int refusal = refuseTray(tray, MOST_LOTS, REST, LAST_GO);
        if (refusal != 0) {
            return refusal;
        }
        hours.use(now.county, now.sky);
        told.expectMany(traySizes[tray]);
        for (int j = 0; j < traySizes[tray]; j++) {
            if (!hours.tells(numberOf(tray, j))) {
                return BAD_NUMBER;
            }
            told.expect(j, (int) numberOf(tray, j));
        }
        return now.isDown() ? NOT_NOW : 0;
    }

    /** The tape, and the tokens along its first bytes. After a fault it is as if the text had ended. */
    private static final class Tokens {
        static final int SIZE = 900;
        static final int COUNTY = 0;
        static final int PLACES = 1;
        static final int HEIGHT = 2;
        static final int WAY = 3;
        static final int KIN = 4;
        static final int AT = 5;
        static final int AGE = 6;
        static final int STRENGTH = 7;
        static final int BEARS = 8;
        static final int WEATHER_WORD = 9;
        static final int TIRES = 10;
        static final int MAY = 11;
        static final int IF = 12;
        static final int THEN = 13;
        static final int ELSE = 14;
        static final int END_WORD = 15;
        static final int GOES = 16;
        static final int FROM = 17;
        static final int OR = 18;
        static final int AND = 19;
        static final int NOT = 20;
        static final int NUMBER = 30;
        static final int UNKNOWN = 31;
        static final int END = 32;
        private static final String WORDS =
            "county places height way kin at age strength bears weather tires may if then else end goes from or and not";
        private static final String SIGNS = ";:+-*()[]=<>";
        private static final int MOST_DIGITS = 3;

        private final byte[] tape = new byte[SIZE];
        int taped;
        private int length;
        private int begin;
        private int behind;
        /** A word's number in WORDS, a sign's own code, or NUMBER, UNKNOWN, END. */
        int kind;
        int value;
        int fault;
        int faultAt = NONE;

        boolean hasRoom(int bytes) {
            return taped + bytes <= SIZE;
        }

        void put(int four) {
            if (!hasRoom(4)) {
                return;
            }
            for (int shift = 24; shift >= 0; shift -= 8) {
                tape[taped] = (byte) (four >> shift);
                taped++;
            }
        }

        void open(int n) {
            length = Math.min(n, taped);
            behind = 0;
            fault = 0;
            faultAt = NONE;
            step();
        }

        void refuse(int why) {
            if (fault == 0) {
                fault = why;
                faultAt = begin;
                kind = END;
            }
        }

        void expect(int wanted) {
            if (kind == wanted) {
                step();
            } else {
                refuse(2);
            }
        }

        void step() {
            if (fault != 0) {
                return;
            }
            while (behind < length && (tape[behind] == 10 || tape[behind] == 32)) {
                behind++;
            }
            begin = behind;
            if (behind >= length) {
                kind = END;
            } else if (tape[behind] >= 'a' && tape[behind] <= 'z') {
                takeWord();
            } else if (tape[behind] >= '0' && tape[behind] <= '9') {
                takeNumber();
                if (behind - begin > MOST_DIGITS) {
                    refuse(1);
                }
            } else if (tape[behind] > 32 && SIGNS.indexOf((char) tape[behind]) >= 0) {
                kind = tape[behind];
                behind++;
            } else {
                refuse(1);
            }
        }

        private void takeNumber() {
            value = 0;
            while (behind < length && tape[behind] >= '0' && tape[behind] <= '9') {
                if (behind - begin < MOST_DIGITS) {
                    value = value * 10 + tape[behind] - '0';
                }
                behind++;
            }
            kind = NUMBER;
        }

        private void takeWord() {
            while (behind < length && tape[behind] >= 'a' && tape[behind] <= 'z') {
                behind++;
            }
            int word = 0;
            int at = begin;
            boolean same = true;
            for (int i = 0; i <= WORDS.length(); i++) {
                if (i == WORDS.length() || WORDS.charAt(i) == ' ') {
                    if (same && at == behind) {
                        kind = word;
                        return;
                    }
                    word++;
                    at = begin;
                    same = true;
                } else {
                    same = same && at < behind && tape[at] == WORDS.charAt(i);
                    at++;
                }
            }
            kind = UNKNOWN;
        }
    }

    /** Reads a county's text into a draft; laws become code for a machine with a stack. */
    private static final class Reader {
        static final int FACT = 1000;
        static final int PLUS = 1010;
        static final int MINUS = 1011;
        static final int TIMES = 1012;
        static final int EQUAL = 1013;
        static final int LESS = 1014;
        static final int MORE = 1015;
        static final int BOTH = 1016;
        static final int EITHER = 1017;
        static final int NOT = 1018;
        static final int SELECT = 1019;
        /** Facts of one of the kin, by which laws are told; the last one is goes or from. */
        static final int FACTS = 7;
        private static final int DEEPEST = 6;

        private final Tokens tokens;
        final int[] code = new int[Tokens.SIZE];
        int used;
        int places = 1;
        int kin;
        final int[] heights = new int[MOST_PLACES];
        final int[] ways = new int[MOST_PLACES];
        final int[] homes = new int[MOST_KIN];
        final int[] ages = new int[MOST_KIN];
        final int[] strengths = new int[MOST_KIN];
        int bearer;
        int sky;
        int lines;
        int tiresFrom = NONE;
        int tiresTo;
        int mayFrom = NONE;
        int mayTo;
        private int lastFact;

        Reader(Tokens tokens) {
            this.tokens = tokens;
        }

        /** Reads the first n bytes on the tape: the fault, or 0. */
        int read(int n) {
            clear();
            tokens.open(n);
            tokens.expect(Tokens.COUNTY);
            tokens.expect(Tokens.PLACES);
            places = number(1, MOST_PLACES, NONE);
            tokens.expect(';');
            lines = 1;
            for (int i = 0; i < Tokens.SIZE && tokens.kind != Tokens.END; i++) {
                line();
                tokens.expect(';');
                lines++;
            }
            return tokens.fault;
        }

        private void clear() {
            used = 0;
            kin = 0;
            Arrays.fill(heights, 0);
            Arrays.fill(ways, 0);
            bearer = 0;
            sky = 0;
            tiresFrom = NONE;
            mayFrom = NONE;
        }

        private void line() {
            int word = tokens.kind;
            switch (word) {
                case Tokens.HEIGHT:
                    tokens.step();
                    int k = number(0, places - 1, NONE);
                    heights[k] = number(0, 9, NONE);
                    break;
                case Tokens.WAY:
                    tokens.step();
                    int a = number(0, places - 1, NONE);
                    int b = number(0, places - 1, a);
                    ways[a] |= 1 << b;
                    ways[b] |= 1 << a;
                    break;
                case Tokens.KIN:
                    kinLine();
                    break;
                case Tokens.BEARS:
                    tokens.step();
                    bearer = number(0, kin - 1, NONE);
                    break;
                case Tokens.WEATHER_WORD:
                    tokens.step();
                    sky = number(0, WEATHERS - 1, NONE);
                    break;
                case Tokens.TIRES:
                case Tokens.MAY:
                    law(word);
                    break;
                default:
                    tokens.refuse(2);
                    break;
            }
        }

        private void kinLine() {
            if (kin >= MOST_KIN) {
                tokens.refuse(4);
                return;
            }
            tokens.step();
            tokens.expect(Tokens.AT);
            homes[kin] = number(0, places - 1, NONE);
            ages[kin] = 0;
            strengths[kin] = MOST_STRENGTH;
            for (int i = 0; i < Tokens.SIZE; i++) {
                if (tokens.kind == Tokens.AGE) {
                    tokens.step();
                    ages[kin] = number(0, 9, NONE);
                } else if (tokens.kind == Tokens.STRENGTH) {
                    tokens.step();
                    strengths[kin] = number(0, MOST_STRENGTH, NONE);
                } else {
                    break;
                }
            }
            kin++;
        }

        private void law(int word) {
            tokens.step();
            tokens.expect(':');
            int from = used;
            if (word == Tokens.TIRES) {
                lastFact = Tokens.GOES;
                sum(0);
                tiresFrom = from;
                tiresTo = used;
            } else {
                lastFact = Tokens.FROM;
                truth(0);
                mayFrom = from;
                mayTo = used;
            }
        }

        /** A number that must be from low to high, and not another one; low, if there is a fault. */
        private int number(int low, int high, int other) {
            if (tokens.kind != Tokens.NUMBER) {
                tokens.refuse(2);
                return low;
            }
            int value = tokens.value;
            if (value < low || value > high || value == other) {
                tokens.refuse(3);
                return low;
            }
            tokens.step();
            return value;
        }

        private void emit(int order) {
            if (used < code.length) {
                code[used] = order;
                used++;
            }
        }

        /** One of not [ ( if within so many: steps behind it, or refuses it. */
        private boolean goesDeeper(int depth) {
            if (depth >= DEEPEST) {
                tokens.refuse(4);
                return false;
            }
            tokens.step();
            return true;
        }

        private void truth(int depth) {
            both(depth);
            for (int i = 0; i < Tokens.SIZE && tokens.kind == Tokens.OR; i++) {
                tokens.step();
                both(depth);
                emit(EITHER);
            }
        }

        private void both(int depth) {
            unit(depth);
            for (int i = 0; i < Tokens.SIZE && tokens.kind == Tokens.AND; i++) {
                tokens.step();
                unit(depth);
                emit(BOTH);
            }
        }

        private void unit(int depth) {
            if (tokens.kind == Tokens.NOT) {
                if (goesDeeper(depth)) {
                    unit(depth + 1);
                    emit(NOT);
                }
                return;
            }
            if (tokens.kind == '[') {
                if (goesDeeper(depth)) {
                    truth(depth + 1);
                    tokens.expect(']');
                }
                return;
            }
            sum(depth);
            int sign = tokens.kind;
            if (sign != '=' && sign != '<' && sign != '>') {
                tokens.refuse(2);
                return;
            }
            tokens.step();
            sum(depth);
            emit(sign == '=' ? EQUAL : sign == '<' ? LESS : MORE);
        }

        private void sum(int depth) {
            term(depth);
            for (int i = 0; i < Tokens.SIZE && (tokens.kind == '+' || tokens.kind == '-'); i++) {
                int sign = tokens.kind;
                tokens.step();
                term(depth);
                emit(sign == '+' ? PLUS : MINUS);
            }
        }

        private void term(int depth) {
            atom(depth);
            for (int i = 0; i < Tokens.SIZE && tokens.kind == '*'; i++) {
                tokens.step();
                atom(depth);
                emit(TIMES);
            }
        }

        private void atom(int depth) {
            if (tokens.kind == Tokens.NUMBER) {
                emit(tokens.value);
                tokens.step();
            } else if (tokens.kind == '(') {
                if (goesDeeper(depth)) {
                    sum(depth + 1);
                    tokens.expect(')');
                }
            } else if (tokens.kind == Tokens.IF) {
                if (goesDeeper(depth)) {
                    truth(depth + 1);
                    tokens.expect(Tokens.THEN);
                    sum(depth + 1);
                    tokens.expect(Tokens.ELSE);
                    sum(depth + 1);
                    tokens.expect(Tokens.END_WORD);
                    emit(SELECT);
                }
            } else {
                int fact = factOf(tokens.kind);
                if (fact == NONE) {
                    tokens.refuse(2);
                    return;
                }
                emit(FACT + fact);
                tokens.step();
            }
        }

        private int factOf(int word) {
            switch (word) {
                case Tokens.KIN:
                    return 0;
                case Tokens.AGE:
                    return 1;
                case Tokens.STRENGTH:
                    return 2;
                case Tokens.BEARS:
                    return 3;
                case Tokens.WEATHER_WORD:
                    return 4;
                case Tokens.HEIGHT:
                    return 5;
                default:
                    return word == lastFact ? FACTS - 1 : NONE;
            }
        }
    }

    /**
     * A county as it was told. How all are in it is one int, a stand: the strengths in two bits each, above
     * them a number that tells bearer and places; so rows over all stands stay short.
     */
    private static final class County {
        final int places;
        final int kin;
        final int lines;
        final int sky;
        final int[] heights;
        final int[] ways;
        final int[] ages;
        final int[] code;
        final int tiresFrom;
        final int tiresTo;
        final int mayFrom;
        final int mayTo;
        final int bits;
        final int placings;
        /** By a placing's number the places of all, three bits each. */
        final int[] placed;
        /** How much a placing's number grows by one place of one of the kin. */
        final int[] weights;
        final int size;
        final int first;

        County(Reader draft) {
            places = draft.places;
            kin = draft.kin;
            lines = draft.lines;
            sky = draft.sky;
            heights = draft.heights.clone();
            ways = draft.ways.clone();
            ages = draft.ages.clone();
            code = Arrays.copyOf(draft.code, draft.used);
            tiresFrom = draft.tiresFrom;
            tiresTo = draft.tiresTo;
            mayFrom = draft.mayFrom;
            mayTo = draft.mayTo;
            bits = 2 * kin;
            weights = new int[MOST_KIN];
            int all = 1;
            int placing = 0;
            int strengths = 0;
            for (int p = 0; p < kin; p++) {
                weights[p] = all;
                placing += draft.homes[p] * all;
                strengths |= draft.strengths[p] << 2 * p;
                all *= places;
            }
            placings = all;
            placed = new int[all];
            for (int p = 0; p < kin; p++) {
                for (int i = weights[p]; i < weights[p] * places; i++) {
                    placed[i] = placed[i - weights[p]] + (1 << 3 * p);
                }
            }
            size = Math.max(1, (kin * all) << bits);
            first = ((draft.bearer * all + placing) << bits) | strengths;
        }

        int stand(int bearer, int placing, int strengths) {
            return ((bearer * placings + placing) << bits) | strengths;
        }

        int bearerOf(int stand) {
            int above = stand >> bits;
            return above < placings ? 0 : above < 2 * placings ? 1 : 2;
        }

        int placingOf(int stand) {
            return (stand >> bits) - bearerOf(stand) * placings;
        }

        int placeOf(int stand, int p) {
            return placed[placingOf(stand)] >> 3 * p & 7;
        }

        int strengthOf(int stand, int p) {
            return stand >> 2 * p & 3;
        }

        int strengthsOf(int stand) {
            return stand & (1 << bits) - 1;
        }

        /** The strength of the bearer; 0 without kin. */
        int bearing(int stand) {
            return kin == 0 ? 0 : strengthOf(stand, bearerOf(stand));
        }

        boolean isDown(int stand) {
            return kin == 0 || (stand >> 2 * bearerOf(stand) & 3) == 0;
        }

        /** Where the standard is; NONE without kin. */
        int where(int stand) {
            if (kin == 0) {
                return NONE;
            }
            int b = bearerOf(stand);
            return placed[(stand >> bits) - b * placings] >> 3 * b & 7;
        }

        int kinAt(int stand, int k) {
            int mask = 0;
            for (int p = 0; p < kin; p++) {
                if (placeOf(stand, p) == k) {
                    mask |= 1 << p;
                }
            }
            return mask;
        }

        int together(int stand) {
            int sum = 0;
            for (int p = 0; p < kin; p++) {
                sum += strengthOf(stand, p);
            }
            return sum;
        }

        int fed(int stand, int p) {
            return stand | MOST_STRENGTH << 2 * p;
        }

        int weakened(int stand, int p) {
            return strengthOf(stand, p) == 0 ? stand : stand - (1 << 2 * p);
        }
    }

    /** What an hour brings, by a county and a weather. What a law tells of a case is asked once a county. */
    private static final class Hours {
        static final int MOST_DEEDS = 16;
        private static final int MILLION = 1000000;
        private static final int TIRING_CASES = WEATHERS * MOST_KIN * 4 * 2 * MOST_PLACES * 2;
        private static final int GOING_CASES = WEATHERS * MOST_KIN * 4 * 2 * MOST_PLACES * MOST_PLACES;

        County county;
        int sky;
        /** Which county the answers in tiring and going are of; it stands above them, so none is cleared. */
        private int edition = 1;
        private final int[] tiring = new int[TIRING_CASES];
        private final int[] going = new int[GOING_CASES];
        private final int[] facts = new int[Reader.FACTS];
        private final int[] stack = new int[64];
        final int[] deeds = new int[MOST_DEEDS];
        final int[] behind = new int[MOST_DEEDS];
        int many;

        Hours(County county) {
            this.county = county;
        }

        void use(County other, int weather) {
            if (county != other) {
                county = other;
                edition++;
            }
            sky = weather;
        }

        /** Whether a number tells an hour of kin and places that there are. */
        boolean tells(long deed) {
            if (deed == REST) {
                return true;
            }
            if (deed >= GO && deed <= LAST_GO) {
                return (deed - GO) / 10 < county.kin && deed % 10 < county.places;
            }
            return deed >= HAND && deed < HAND + county.kin;
        }

        int whyNot(int stand, long deed) {
            if (!tells(deed)) {
                return 1;
            }
            if (county.isDown(stand)) {
                return 2;
            }
            if (deed == REST) {
                return 0;
            }
            int b = county.bearerOf(stand);
            if (deed < GO) {
                int q = (int) deed - HAND;
                if (q == b || county.placeOf(stand, q) != county.placeOf(stand, b)) {
                    return 3;
                }
                return county.strengthOf(stand, q) == 0 ? 4 : 0;
            }
            int p = ((int) deed - GO) / 10;
            int to = (int) deed % 10;
            int from = county.placeOf(stand, p);
            if ((county.ways[from] >> to & 1) == 0) {
                return 3;
            }
            return mayGo(p, county.strengthOf(stand, p), p == b ? 1 : 0, from, to) ? 0 : 4;
        }

        /** The stand behind an hour, or NONE if it can't be. */
        int after(int stand, long deed) {
            spread(stand);
            for (int i = 0; i < many; i++) {
                if (deeds[i] == deed) {
                    return behind[i];
                }
            }
            return NONE;
        }

        /** All hours that can be from a stand, by deeds as numbers, with the stands behind them. */
        void spread(int stand) {
            many = 0;
            if (county.isDown(stand)) {
                return;
            }
            int b = county.bearerOf(stand);
            int placing = county.placingOf(stand);
            int at = county.placed[placing];
            int calm = 0;
            for (int p = 0; p < county.kin; p++) {
                calm |= tire(p, stand >> 2 * p & 3, p == b ? 1 : 0, at >> 3 * p & 7, 0) << 2 * p;
            }
            add(REST, county.stand(b, placing, calm));
            for (int q = 0; q < county.kin; q++) {
                int here = at >> 3 * q & 7;
                int strength = stand >> 2 * q & 3;
                if (q != b && here == (at >> 3 * b & 7) && strength > 0) {
                    int freed = with(calm, b, tire(b, stand >> 2 * b & 3, 0, here, 0));
                    add(HAND + q, county.stand(q, placing, with(freed, q, tire(q, strength, 1, here, 0))));
                }
            }
            for (int p = 0; p < county.kin; p++) {
                int from = at >> 3 * p & 7;
                int strength = stand >> 2 * p & 3;
                int bears = p == b ? 1 : 0;
                for (int to = 0; to < county.places; to++) {
                    if ((county.ways[from] >> to & 1) == 1 && mayGo(p, strength, bears, from, to)) {
                        int there = placing + (to - from) * county.weights[p];
                        int then = with(calm, p, tire(p, strength, bears, to, 1));
                        add(GO + 10 * p + to, county.stand(b, there, then));
                    }
                }
            }
        }

        private void add(int deed, int stand) {
            if (many < MOST_DEEDS) {
                deeds[many] = deed;
                behind[many] = stand;
                many++;
            }
        }

        private int with(int strengths, int p, int strength) {
            return strengths & ~(3 << 2 * p) | strength << 2 * p;
        }

        /** The strength behind an hour of one of the kin that is at a place then. */
        private int tire(int p, int strength, int bears, int k, int goes) {
            int at = ((((sky * MOST_KIN + p) * 4 + strength) * 2 + bears) * MOST_PLACES + k) * 2 + goes;
            int known = tiring[at];
            if (known >> 2 == edition) {
                return known & 3;
            }
            int value = strength + (bears == 1 ? -1 : goes == 1 ? 0 : 1);
            if (county.tiresFrom != NONE) {
                setFacts(p, strength, bears, k, goes);
                value = tell(county.tiresFrom, county.tiresTo);
            }
            value = Math.max(0, Math.min(MOST_STRENGTH, value));
            tiring[at] = edition << 2 | value;
            return value;
        }

        private boolean mayGo(int p, int strength, int bears, int from, int to) {
            int at = ((((sky * MOST_KIN + p) * 4 + strength) * 2 + bears) * MOST_PLACES + from) * MOST_PLACES + to;
            int known = going[at];
            if (known >> 1 == edition) {
                return (known & 1) == 1;
            }
            boolean may = strength > 0;
            if (county.mayFrom != NONE) {
                setFacts(p, strength, bears, to, county.heights[from]);
                may = tell(county.mayFrom, county.mayTo) != 0;
            }
            going[at] = edition << 1 | (may ? 1 : 0);
            return may;
        }

        private void setFacts(int p, int strength, int bears, int k, int last) {
            facts[0] = p;
            facts[1] = county.ages[p];
            facts[2] = strength;
            facts[3] = bears;
            facts[4] = sky;
            facts[5] = county.heights[k];
            facts[6] = last;
        }

        /** What a law's code tells by the facts. */
        private int tell(int from, int to) {
            int top = 0;
            for (int i = from; i < to && top < stack.length; i++) {
                int order = county.code[i];
                if (order < Reader.FACT) {
                    stack[top] = order;
                    top++;
                } else if (order < Reader.FACT + Reader.FACTS) {
                    stack[top] = facts[order - Reader.FACT];
                    top++;
                } else if (order == Reader.NOT && top >= 1) {
                    stack[top - 1] = 1 - stack[top - 1];
                } else if (order == Reader.SELECT && top >= 3) {
                    top -= 2;
                    stack[top - 1] = stack[top - 1] != 0 ? stack[top] : stack[top + 1];
                } else if (top >= 2) {
                    top--;
                    stack[top - 1] = join(order, stack[top - 1], stack[top]);
                }
            }
            return stack[0];
        }

        /** Truths are 0 and 1, so the bounds of sums do no harm to them. */
        private int join(int order, long a, long b) {
            long joined;
            switch (order) {
                case Reader.PLUS:
                    joined = a + b;
                    break;
                case Reader.MINUS:
                    joined = a - b;
                    break;
                case Reader.TIMES:
                    joined = a * b;
                    break;
                case Reader.EQUAL:
                    joined = a == b ? 1 : 0;
                    break;
                case Reader.LESS:
                    joined = a < b ? 1 : 0;
                    break;
                case Reader.MORE:
                    joined = a > b ? 1 : 0;
                    break;
                case Reader.BOTH:
                    joined = a & b;
                    break;
                default:
                    joined = a | b;
                    break;
            }
            return (int) Math.max(-MILLION, Math.min(MILLION, joined));
        }
    }

    /** What a call could bring back by undoing, and the county it is of. */
    private static final class Moment {
        County county;
        int stand;
        int sky;
        int hours;

        Moment(County county) {
            this.county = county;
            stand = county.first;
            sky = county.sky;
        }

        void begin(County other) {
            county = other;
            stand = other.first;
            sky = other.sky;
            hours = 0;
        }

        void take(Moment other) {
            county = other.county;
            stand = other.stand;
            sky = other.sky;
            hours = other.hours;
        }

        boolean isDown() {
            return county.isDown(stand);
        }

        /** Does a deed, if it can be: why not, or 0. */
        int act(Hours laws, long deed) {
            if (deed >= MEAL && deed < MEAL + 10) {
                int p = (int) deed - MEAL;
                if (p >= county.kin) {
                    return 1;
                }
                stand = county.fed(stand, p);
                return 0;
            }
            if (deed >= WEATHER && deed < WEATHER + WEATHERS) {
                sky = (int) deed - WEATHER;
                return 0;
            }
            laws.use(county, sky);
            int cause = laws.whyNot(stand, deed);
            if (cause == 0) {
                stand = laws.after(stand, deed);
                hours++;
            }
            return cause;
        }
    }

    /** Rows over all stands that several helpers use, each within one call. */
    private static final class Desk {
        int[] list = new int[0];
        int[] other = new int[0];
        int[] marks = new int[0];

        void fit(int size) {
            if (list.length < size) {
                list = new int[size];
                other = new int[size];
                marks = new int[size];
            }
        }

        void turn() {
            int[] was = list;
            list = other;
            other = was;
        }

        void clearMarks(int size) {
            Arrays.fill(marks, 0, Math.min(size, marks.length), 0);
        }
    }

    /**
     * The stands to which rows lead, in the order of fewest hours and first deeds; they are searched only as
     * far as a question needs, and kept for the next one.
     */
    private static final class Coming {
        private static final int DEED_BITS = 8;
        private static final int START = -1;

        private County county;
        private int sky;
        private int start;
        private int[] queue = new int[0];
        /** By a stand: START, or 1 more than the stand ahead and the deed; 0 if it wasn't met. */
        private int[] origin = new int[0];
        private int found;
        private int searched;

        Coming(County county) {
            this.county = county;
        }

        void start(Hours hours, int stand) {
            if (county == hours.county && sky == hours.sky && start == stand && found > 0) {
                return;
            }
            for (int i = 0; i < found; i++) {
                origin[queue[i]] = 0;
            }
            county = hours.county;
            sky = hours.sky;
            start = stand;
            if (queue.length < county.size) {
                queue = new int[county.size];
                origin = new int[county.size];
            }
            queue[0] = stand;
            origin[stand] = START;
            found = 1;
            searched = 0;
        }

        private void searchOn(Hours hours, int i) {
            if (i < searched) {
                return;
            }
            searched = i + 1;
            int stand = queue[i];
            hours.spread(stand);
            for (int j = 0; j < hours.many; j++) {
                int next = hours.behind[j];
                if (origin[next] == 0 && found < queue.length) {
                    origin[next] = (stand << DEED_BITS | hours.deeds[j]) + 1;
                    queue[found] = next;
                    found++;
                }
            }
        }

        /** The first stand met in which it is up at a place, borne by one (NONE: any), or NONE. */
        int find(Hours hours, int k, int p) {
            for (int i = 0; i < found && i < county.size; i++) {
                int stand = queue[i];
                if (!county.isDown(stand) && county.where(stand) == k
                    && (p == NONE || county.bearerOf(stand) == p)) {
                    return stand;
                }
                searchOn(hours, i);
            }
            return NONE;
        }

        int bits(Hours hours, boolean ofBearers) {
            int full = (1 << (ofBearers ? county.kin : county.places)) - 1;
            int mask = 0;
            for (int i = 0; i < found && i < county.size && mask != full; i++) {
                int stand = queue[i];
                if (!county.isDown(stand)) {
                    mask |= 1 << (ofBearers ? county.bearerOf(stand) : county.where(stand));
                }
                searchOn(hours, i);
            }
            return mask;
        }

        int all(Hours hours) {
            for (int i = 0; i < found && i < county.size; i++) {
                searchOn(hours, i);
            }
            return found;
        }

        int length(int end) {
            int hoursAhead = 0;
            int stand = end;
            while (origin[stand] > 0 && hoursAhead < found) {
                stand = origin[stand] - 1 >> DEED_BITS;
                hoursAhead++;
            }
            return hoursAhead;
        }

        /** The deed of the i-th hour of the row to a stand, or NONE. */
        int deedAt(int end, int i) {
            int stand = end;
            for (int left = length(end) - 1; left > i; left--) {
                stand = origin[stand] - 1 >> DEED_BITS;
            }
            if (i >= length(end) || origin[stand] <= 0) {
                return NONE;
            }
            return origin[stand] - 1 & (1 << DEED_BITS) - 1;
        }
    }

    /** How long it can be kept up from stands. A stand's worth is 1 more than its hours, or ENDLESS. */
    private static final class Keeping {
        private static final int OPEN = -1;
        private static final int ENDLESS = Integer.MAX_VALUE;

        private final Desk desk;
        private County county;
        private int sky;
        /** Worths without any kin left out, kept from call to call; 0 where not asked. */
        private int[] worths = new int[0];
        private int unknown;
        private final int[] deeds = new int[Hours.MOST_DEEDS];
        private final int[] behind = new int[Hours.MOST_DEEDS];

        Keeping(Desk desk, County county) {
            this.desk = desk;
            this.county = county;
        }

        private void prepare(Hours hours) {
            desk.fit(hours.county.size);
            if (county == hours.county && sky == hours.sky && worths.length >= county.size) {
                return;
            }
            county = hours.county;
            sky = hours.sky;
            if (worths.length < county.size) {
                worths = new int[county.size];
            } else {
                Arrays.fill(worths, 0, county.size, 0);
            }
        }

        int longest(Hours hours, int stand) {
            prepare(hours);
            solve(hours, worths, stand, NONE);
            return worths[stand] == ENDLESS ? NONE : worths[stand] - 1;
        }

        int longestWithout(Hours hours, int stand, int left) {
            desk.fit(hours.county.size);
            desk.clearMarks(hours.county.size);
            solve(hours, desk.marks, stand, left);
            return desk.marks[stand] == ENDLESS ? NONE : desk.marks[stand] - 1;
        }

        int deedAt(Hours hours, int start, int i) {
            prepare(hours);
            solve(hours, worths, start, NONE);
            int stand = start;
            int deed = NONE;
            for (int step = 0; step <= i; step++) {
                int wanted = worths[stand] == ENDLESS ? ENDLESS : worths[stand] - 1;
                if (wanted == 0) {
                    return NONE;
                }
                hours.spread(stand);
                int many = hours.many;
                System.arraycopy(hours.deeds, 0, deeds, 0, many);
                System.arraycopy(hours.behind, 0, behind, 0, many);
                boolean found = false;
                for (int j = 0; j < many && !found; j++) {
                    if (!county.isDown(behind[j])) {
                        solve(hours, worths, behind[j], NONE);
                        if (worths[behind[j]] == wanted) {
                            deed = deeds[j];
                            stand = behind[j];
                            found = true;
                        }
                    }
                }
                if (!found) {
                    return NONE;
                }
            }
            return deed;
        }

        /** A search down the hours; a stand met again on its own path, or an endless one, makes all of it endless. */
        private void solve(Hours hours, int[] known, int start, int left) {
            if (known[start] != 0) {
                return;
            }
            int[] path = desk.list;
            path[0] = start;
            known[start] = OPEN;
            int deep = 1;
            int most = 2 * hours.county.size;
            for (int turn = 0; turn < most && deep > 0; turn++) {
                int stand = path[deep - 1];
                int worth = look(hours, known, stand, left);
                if (worth == ENDLESS) {
                    for (int i = 0; i < deep; i++) {
                        known[path[i]] = ENDLESS;
                    }
                    deep = 0;
                } else if (unknown == NONE) {
                    known[stand] = worth;
                    deep--;
                } else {
                    known[unknown] = OPEN;
                    path[deep] = unknown;
                    deep++;
                }
            }
        }

        /** The worth of a stand by what is known behind it; in unknown one behind it that must be asked ahead. */
        private int look(Hours hours, int[] known, int stand, int left) {
            unknown = NONE;
            int most = 0;
            hours.spread(stand);
            for (int j = 0; j < hours.many; j++) {
                int next = hours.behind[j];
                if (hours.county.isDown(next) || needs(hours.deeds[j], left)) {
                    continue;
                }
                int worth = known[next];
                if (worth == OPEN || worth == ENDLESS) {
                    return ENDLESS;
                }
                if (worth == 0) {
                    unknown = next;
                }
                most = Math.max(most, worth);
            }
            return most + 1;
        }

        private boolean needs(int deed, int p) {
            if (p == NONE || deed == REST) {
                return false;
            }
            return deed < GO ? deed - HAND == p : (deed - GO) / 10 == p;
        }
    }

    /** Rows of told lengths by which it is never down and, where that is told, seen at a place. */
    private static final class Rows {
        private final Desk desk;
        private long[] counts = new long[0];
        private long[] sums = new long[0];
        private final int[] wanted = new int[MOST_SEEN];
        private int length;
        /** The stands behind each hour of a search, by how many hours are ahead of it. */
        private final int[][] ahead = new int[MOST_SEEN][Hours.MOST_DEEDS];
        private final int[] deeds = new int[Hours.MOST_DEEDS];

        Rows(Desk desk) {
            this.desk = desk;
        }

        void expectAny(int n) {
            length = Math.min(n, MOST_SEEN);
            Arrays.fill(wanted, NONE);
        }

        void expect(int i, int k) {
            if (i >= 0 && i < MOST_SEEN) {
                wanted[i] = k;
            }
        }

        private boolean fits(County county, int stand, int level) {
            return !county.isDown(stand) && (wanted[level] == NONE || county.where(stand) == wanted[level]);
        }

        long total(Hours hours, int start) {
            int many = goOn(hours, start, length);
            long sum = 0;
            for (int i = 0; i < many; i++) {
                sum += counts[desk.list[i]];
            }
            forget(many);
            return sum;
        }

        private void forget(int many) {
            for (int i = 0; i < many; i++) {
                counts[desk.list[i]] = 0;
            }
        }

        /** Puts the stands to which rows of n hours lead on the desk's list, their rows in counts: how many stands. */
        private int goOn(Hours hours, int start, int n) {
            int size = hours.county.size;
            desk.fit(size);
            if (counts.length < size) {
                counts = new long[size];
                sums = new long[size];
            }
            if (hours.county.isDown(start)) {
                return 0;
            }
            desk.list[0] = start;
            counts[start] = 1;
            int many = 1;
            for (int level = 0; level < n; level++) {
                many = goOneHour(hours, level, many);
            }
            return many;
        }

        private int goOneHour(Hours hours, int level, int many) {
            int next = 0;
            for (int i = 0; i < many; i++) {
                int stand = desk.list[i];
                long rowsHere = counts[stand];
                counts[stand] = 0;
                hours.spread(stand);
                for (int j = 0; j < hours.many; j++) {
                    int to = hours.behind[j];
                    if (fits(hours.county, to, level)) {
                        if (sums[to] == 0) {
                            desk.other[next] = to;
                            next++;
                        }
                        sums[to] += rowsHere;
                    }
                }
            }
            desk.turn();
            long[] was = counts;
            counts = sums;
            sums = was;
            return next;
        }

        /** The deed of the i-th hour of the first row, or NONE. */
        int deedAt(Hours hours, int start, int i) {
            if (hours.county.isDown(start)) {
                return NONE;
            }
            desk.fit(hours.county.size);
            desk.clearMarks(hours.county.size);
            int stand = start;
            int deed = NONE;
            for (int level = 0; level <= i && level < length; level++) {
                int at = firstStep(hours, stand, level);
                if (at == NONE) {
                    return NONE;
                }
                deed = deeds[at];
                stand = ahead[level][at];
            }
            return deed;
        }

        private int firstStep(Hours hours, int stand, int level) {
            hours.spread(stand);
            int many = hours.many;
            System.arraycopy(hours.deeds, 0, deeds, 0, many);
            System.arraycopy(hours.behind, 0, ahead[level], 0, many);
            for (int j = 0; j < many; j++) {
                int next = ahead[level][j];
                if (fits(hours.county, next, level) && canGoOn(hours, next, level + 1)) {
                    return j;
                }
            }
            return NONE;
        }

        /** Whether the told rows can go on to their end from a stand; it is marked in two bits for each level. */
        private boolean canGoOn(Hours hours, int stand, int level) {
            if (level >= length) {
                return true;
            }
            int known = desk.marks[stand] >> 2 * level & 3;
            if (known != 0) {
                return known == 1;
            }
            hours.spread(stand);
            int many = hours.many;
            System.arraycopy(hours.behind, 0, ahead[level], 0, many);
            boolean can = false;
            for (int j = 0; j < many && !can; j++) {
                int next = ahead[level][j];
                can = fits(hours.county, next, level) && canGoOn(hours, next, level + 1);
            }
            desk.marks[stand] |= (can ? 1 : 2) << 2 * level;
            return can;
        }

        int bearersAt(Hours hours, int start, int i) {
            int many = goOn(hours, start, i + 1);
            forget(many);
            desk.clearMarks(hours.county.size);
            int mask = 0;
            for (int j = 0; j < many; j++) {
                int stand = desk.list[j];
                int bit = 1 << hours.county.bearerOf(stand);
                if ((mask & bit) == 0 && canGoOn(hours, stand, i + 1)) {
                    mask |= bit;
                }
            }
            return mask;
        }
    }

    /**
     * How long they last against the beast. All stands to which hours and beast can lead are taken to last
     * for ever, till in the n-th sweep it is seen that they don't last for n hours.
     */
    private static final class Beast {
        private static final int ENDLESS = Integer.MAX_VALUE;
        private static final int SWEEPS = 1000000;
        /** The bearer may be wearied behind the hour, and must have strength then, too. */
        private static final int SAFE = 2;

        private final Desk desk;
        private County county;
        private int sky;
        /** By a stand 1 more than the hours it lasts, or ENDLESS; 0 where not asked. */
        private int[] worths = new int[0];
        private int met;

        Beast(Desk desk, County county) {
            this.desk = desk;
            this.county = county;
        }

        /** Of a stand that was solved. */
        int longest(int stand) {
            return worths[stand] == ENDLESS ? NONE : worths[stand] - 1;
        }

        /** Of a stand that was solved. */
        int firstDeed(Hours hours, int stand) {
            int worth = worths[stand];
            if (worth == 1) {
                return NONE;
            }
            hours.spread(stand);
            for (int j = 0; j < hours.many; j++) {
                if (holds(hours.behind[j], worth == ENDLESS ? ENDLESS : worth - 1)) {
                    return hours.deeds[j];
                }
            }
            return NONE;
        }

        void solve(Hours hours, int start) {
            boolean same = county == hours.county && sky == hours.sky;
            if (same && start < worths.length && worths[start] != 0) {
                return;
            }
            county = hours.county;
            sky = hours.sky;
            desk.fit(county.size);
            if (worths.length < county.size) {
                worths = new int[county.size];
            } else {
                Arrays.fill(worths, 0, county.size, 0);
            }
            meetAll(hours, start);
            boolean changed = true;
            for (int n = 1; n < SWEEPS && changed; n++) {
                changed = sweep(hours, n);
            }
        }

        private void meet(int stand) {
            if (worths[stand] == 0 && met < desk.list.length) {
                worths[stand] = ENDLESS;
                desk.list[met] = stand;
                met++;
            }
        }

        private void meetAll(Hours hours, int start) {
            met = 0;
            meet(start);
            for (int i = 0; i < met && i < county.size; i++) {
                int stand = desk.list[i];
                desk.other[stand] = NONE;
                hours.spread(stand);
                for (int j = 0; j < hours.many; j++) {
                    int next = hours.behind[j];
                    if (county.bearing(next) >= SAFE) {
                        meet(next);
                        for (int p = 0; p < county.kin; p++) {
                            meet(county.weakened(next, p));
                        }
                    }
                }
            }
        }

        /** Whether whatever the beast does behind an hour leaves a worth of so much at least. */
        private boolean holds(int stand, int worth) {
            if (county.bearing(stand) < SAFE || worths[stand] < worth) {
                return false;
            }
            for (int p = 0; p < county.kin; p++) {
                if (worths[county.weakened(stand, p)] < worth) {
                    return false;
                }
            }
            return true;
        }

        /** Lets fall what doesn't last for n hours; desk.other has the stand by which each one was seen to last. */
        private boolean sweep(Hours hours, int n) {
            boolean changed = false;
            for (int i = 0; i < met; i++) {
                int stand = desk.list[i];
                int witness = desk.other[stand];
                if (worths[stand] == ENDLESS && (witness == NONE || !holds(witness, n))) {
                    desk.other[stand] = newWitness(hours, stand, n);
                    if (desk.other[stand] == NONE) {
                        worths[stand] = n;
                        changed = true;
                    }
                }
            }
            return changed;
        }

        private int newWitness(Hours hours, int stand, int n) {
            hours.spread(stand);
            for (int j = 0; j < hours.many; j++) {
                if (holds(hours.behind[j], n)) {
                    return hours.behind[j];
                }
            }
            return NONE;
        }
    }

    /** What told numbers bring: hours with lots, hours by which the weather is guessed, draws. */
    private static final class Told {
        private static final int LOTS = 10;

        private final int[] numbers = new int[MOST_SEEN];
        private int length;
        long upWeight;
        long strengthWeight;
        private int whole;
        private final int[] outcomes = new int[WEATHERS];
        private int seed;

        void expectMany(int n) {
            length = Math.min(n, MOST_SEEN);
        }

        void expect(int i, int number) {
            if (i >= 0 && i < MOST_SEEN) {
                numbers[i] = number;
            }
        }

        void sow(int x) {
            seed = x;
        }

        private int draw(int modulus) {
            seed = 1103515245 * seed + 12345;
            return modulus > 0 ? (seed >>> 16) % modulus : 0;
        }

        /** The next deed of a century. */
        int drawDeed() {
            switch (draw(6)) {
                case 0:
                    return REST;
                case 1:
                    return HAND + draw(3);
                case 2:
                case 3:
                    int p = draw(3);
                    return GO + 10 * p + draw(5);
                case 4:
                    return MEAL + draw(3);
                default:
                    return WEATHER + draw(10);
            }
        }

        /** The weathers by which the bearer tires as told, as bits. */
        int skies(Hours hours, int stand) {
            int mask = 0;
            for (int w = 0; w < WEATHERS; w++) {
                hours.use(hours.county, w);
                if (tiresSo(hours, stand)) {
                    mask |= 1 << w;
                }
            }
            return mask;
        }

        private boolean tiresSo(Hours hours, int start) {
            int stand = start;
            for (int i = 0; i < length; i++) {
                int behind = hours.after(stand, REST);
                if (behind != NONE) {
                    stand = behind;
                }
                if (hours.county.bearing(stand) != numbers[i]) {
                    return false;
                }
            }
            return true;
        }

        /** The first hour that leaves the fewest of these weathers alike. */
        int bestTrial(Hours hours, int stand, int skies) {
            int least = WEATHERS + 1;
            int first = NONE;
            for (int deed = REST; deed <= LAST_GO; deed++) {
                if (hours.tells(deed)) {
                    int alike = mostAlike(hours, stand, deed, skies);
                    if (alike < least) {
                        least = alike;
                        first = deed;
                    }
                }
            }
            return first;
        }

        private int mostAlike(Hours hours, int stand, int deed, int skies) {
            int most = 0;
            for (int w = 0; w < WEATHERS; w++) {
                if ((skies >> w & 1) == 1) {
                    hours.use(hours.county, w);
                    int behind = hours.after(stand, deed);
                    outcomes[w] = hours.county.strengthsOf(behind == NONE ? stand : behind);
                    int alike = 0;
                    for (int v = 0; v <= w; v++) {
                        if ((skies >> v & 1) == 1 && outcomes[v] == outcomes[w]) {
                            alike++;
                        }
                    }
                    most = Math.max(most, alike);
                }
            }
            return most;
        }

        /** Weighs all draws of lots behind the told hours, out of 10 for each hour. */
        void drawAll(Hours hours, int stand) {
            whole = 1;
            for (int i = 0; i < length; i++) {
                whole *= LOTS;
            }
            upWeight = 0;
            strengthWeight = 0;
            weigh(hours, stand, 0, whole);
        }

        private void weigh(Hours hours, int stand, int level, int weight) {
            if (level >= length || hours.county.isDown(stand)) {
                settle(hours.county, stand, weight);
                return;
            }
            int behind = hours.after(stand, numbers[level]);
            if (behind == NONE) {
                behind = hours.after(stand, REST);
            }
            if (behind == NONE || hours.county.isDown(behind)) {
                settle(hours.county, behind == NONE ? stand : behind, weight);
                return;
            }
            int lot = weight / LOTS;
            for (int p = 0; p < hours.county.kin; p++) {
                weigh(hours, hours.county.weakened(behind, p), level + 1, lot);
            }
            weigh(hours, behind, level + 1, weight - lot * hours.county.kin);
        }

        private void settle(County county, int stand, int weight) {
            if (!county.isDown(stand)) {
                upWeight += weight;
            }
            strengthWeight += (long) weight * county.together(stand);
        }

        /** A weight out of the whole, as a fraction in lowest terms: the number above (0) or below (1). */
        int inLowestTerms(long weight, int what) {
            long a = weight;
            long b = whole;
            for (int i = 0; i < 100 && b != 0; i++) {
                long rest = a % b;
                a = b;
                b = rest;
            }
            if (a == 0) {
                return NONE;
            }
            return (int) ((what == 0 ? weight : whole) / a);
        }
    }
}
