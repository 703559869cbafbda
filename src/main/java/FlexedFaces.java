/** A flexagon of 3 to 8 pictures: read from a tape, flexed, turned, refolded, mended, and foretold. */
public final class FlexedFaces {
    public static final int BAD = -1, NOT = -2, FULL = -3, NONE = -4, NULL = -11, CAST = -12, INDEX = -13, SIZE = -14;

    private static final int RIGHT = 0, LEFT = 1, TURN = 2, MOVES = 3;
    private static final int TURN_EFFORT = 1;
    private static final int FEWEST_PICTURES = 3, MOST_PICTURES = 8;
    private static final int IMAGES = 2, SHEETS = 4, LANES = 4, MOST_ITEMS = 24;
    private static final int MOST_FORESEEN = 6, TENTHS = 10;
    private static final int MOST_DECADES = 60, MOST_SEED = 999999;
    private static final int MOST_LOGGED = 24, MOST_TOLD_MOVES = 8, MOST_KIND_PAIRS = 10;
    /** How the checks of a SHEET say that nothing is wrong: all refusals are below it. */
    private static final int FINE = 0;

    private final Tape tape = new Tape();
    private final Reader reader = new Reader();
    private final Strip strip = new Strip();
    private final History history = new History();
    private final Strip[] images = new Strip[IMAGES];
    private final Sheet[] sheets = new Sheet[SHEETS];
    private final Paths paths = new Paths();
    private final Going going = new Going();
    private final Foldings guesses = new Foldings();

    public FlexedFaces() {
        for (int k = 0; k < IMAGES; k++) {
            images[k] = new Strip();
        }
        for (int k = 0; k < SHEETS; k++) {
            sheets[k] = new Sheet();
        }
    }

    // ---- 1 what is told

    public int feed(int letter) {
        if (!isWithin(letter, 0, 255)) {
            return BAD;
        }
        return tape.add(letter);
    }

    public int strip() {
        boolean read = reader.readWhole(tape);
        tape.empty();
        if (!read) {
            return -100 - reader.place;
        }
        strip.takeFrom(reader.made);
        history.forget();
        return strip.pictures;
    }

    public int picture(int picture, int what) {
        if (!strip.has(picture)) {
            return BAD;
        }
        switch (what) {
            case 0: return strip.kind[picture];
            case 1: return strip.worth[picture];
            case 2: return strip.bears[picture];
            case 3: return strip.wear[picture];
            case 4: return strip.shown[picture];
            case 5: return strip.effortOf(picture);
            case 6: return strip.linked[picture];
            case 7: return strip.isTorn(picture) ? 1 : 0;
            default: return BAD;
        }
    }

    public int as(int picture, int kind) {
        if (!strip.has(picture) || !isWithin(kind, Kinds.PICTURE, Kinds.BOARD)) {
            return BAD;
        }
        return Kinds.isUnder(strip.kind[picture], kind) ? picture : CAST;
    }

    public int brings(int side) {
        if (!isSide(side)) {
            return BAD;
        }
        if (strip.isMissing()) {
            return NOT;
        }
        return strip.third(strip.front, strip.back, side);
    }

    // ---- 2 acts

    public int flex(int side) {
        return isSide(side) ? doMove(side) : BAD;
    }

    public int turn() {
        return doMove(TURN);
    }

    private int doMove(int move) {
        if (strip.isMissing() || strip.comesBy(move) < 0) {
            return NOT;
        }
        history.keep(strip);
        strip.go(move);
        return strip.front;
    }

    public int refold(int one, int other) {
        if (!strip.has(one) || !strip.has(other) || one == other) {
            return BAD;
        }
        if (!strip.isFold(one, other) || strip.isShowing(one, other)) {
            return NOT;
        }
        int right = strip.third(one, other, RIGHT);
        int left = strip.third(one, other, LEFT);
        if (right < 0 || left < 0) {
            return NOT;
        }
        history.keep(strip);
        strip.part(one, other);
        strip.join(right, left);
        return Math.min(right, left) * 10 + Math.max(right, left);
    }

    public int mend(int picture) {
        if (!strip.has(picture)) {
            return BAD;
        }
        if (strip.wear[picture] == 0) {
            return NOT;
        }
        history.keep(strip);
        strip.wear[picture] = Math.max(0, strip.wear[picture] - 2);
        return strip.wear[picture];
    }

    public int undo() {
        return history.giveBack(strip) ? history.held : NONE;
    }

    public int image(int k) {
        if (!isWithin(k, 0, IMAGES - 1)) {
            return BAD;
        }
        if (strip.isMissing()) {
            return NOT;
        }
        images[k].takeFrom(strip);
        return strip.front;
    }

    public int restore(int k) {
        if (!isWithin(k, 0, IMAGES - 1)) {
            return BAD;
        }
        if (images[k].isMissing()) {
            return NOT;
        }
        strip.takeFrom(images[k]);
        history.forget();
        return strip.front;
    }

    // ---- 3 foretold

    public int reach() {
        if (strip.isMissing()) {
            return NOT;
        }
        paths.lay(strip);
        return paths.reached();
    }

    public int way(int picture, int k) {
        if (!strip.has(picture) || k < -2) {
            return BAD;
        }
        paths.lay(strip);
        paths.measure(strip, picture);
        if (!paths.hasWay()) {
            return NONE;
        }
        if (k == -2) {
            return paths.wayEffort();
        }
        return k == -1 ? paths.wayMoves() : paths.wayMove(strip, k);
    }

    public int tour() {
        if (strip.isMissing()) {
            return NOT;
        }
        paths.lay(strip);
        return paths.fewestToSee(paths.reached());
    }

    public int round(int what) {
        if (!isWithin(what, 0, 1)) {
            return BAD;
        }
        if (strip.isMissing()) {
            return NOT;
        }
        paths.lay(strip);
        return what == 0 ? paths.movesAheadOfCircle() : paths.movesOfCircle();
    }

    public int hand(int picture, int n, int q, int what) {
        if (!strip.has(picture) || !isWithin(n, 0, MOST_FORESEEN) || !isWithin(q, 0, TENTHS) || !isWithin(what, 0, 1)) {
            return BAD;
        }
        int above = going.partsOf(strip, n, picture, q);
        int below = 1;
        for (int k = 0; k < n; k++) {
            below *= TENTHS;
        }
        int shared = greatestDivisor(above, below);
        if (shared < 1) {
            return BAD;
        }
        return (what == 0 ? above : below) / shared;
    }

    public int duel(int n) {
        if (!isWithin(n, 0, MOST_FORESEEN)) {
            return BAD;
        }
        return strip.isMissing() ? NOT : 100 + going.gainOf(strip, n);
    }

    public int decades(int n, int seed, int what) {
        if (!isWithin(n, 0, MOST_DECADES) || !isWithin(seed, 1, MOST_SEED) || !isWithin(what, 0, 1)) {
            return BAD;
        }
        if (strip.isMissing()) {
            return NOT;
        }
        Strip last = going.drawn(strip, n, seed);
        return what == 0 ? last.effort : last.front;
    }

    // ---- 4 sheets

    public int sheet(int sheet, int lane, int n) {
        if (!isSheet(sheet) || !isLane(lane) || n > MOST_ITEMS) {
            return BAD;
        }
        if (n < 0) {
            return SIZE;
        }
        sheets[sheet].lay(lane, n);
        return n;
    }

    public int drop(int sheet) {
        if (!isSheet(sheet)) {
            return BAD;
        }
        if (sheets[sheet].isNothing()) {
            return NULL;
        }
        int had = sheets[sheet].size;
        sheets[sheet].clear();
        return had;
    }

    public long item(int sheet, int lane, int i, long v) {
        if (!isSheet(sheet) || !isLane(lane)) {
            return BAD;
        }
        int refusal = sheets[sheet].refusal(lane, i, 1);
        return refusal != FINE ? refusal : sheets[sheet].put(i, v);
    }

    public int copy(int from, int i, int to, int j, int n) {
        if (!isSheet(from) || !isSheet(to)) {
            return BAD;
        }
        Sheet source = sheets[from];
        Sheet target = sheets[to];
        if (source.isNothing() || target.isNothing()) {
            return NULL;
        }
        if (source.lane != target.lane) {
            return CAST;
        }
        if (!source.spans(i, n) || !target.spans(j, n)) {
            return INDEX;
        }
        System.arraycopy(source.items, i, target.items, j, n);
        return n;
    }

    public int log(int sheet, int lane, int i, int n) {
        if (!isSheet(sheet) || !isLane(lane) || !isWithin(n, 1, MOST_LOGGED)) {
            return BAD;
        }
        int refusal = sheets[sheet].refusal(lane, i, n);
        if (refusal != FINE) {
            return refusal;
        }
        if (strip.isMissing()) {
            return NOT;
        }
        paths.lay(strip);
        paths.writeCircle(sheets[sheet], i, n);
        return n;
    }

    public int foldings(int sheet, int lane, int i, int n, int what) {
        if (strip.isMissing() || !isSheet(sheet) || !isLane(lane)
                || !isWithin(n, 0, MOST_TOLD_MOVES) || !isWithin(what, 0, 2)) {
            return BAD;
        }
        int refusal = sheets[sheet].refusal(lane, i, 2 + 2 * n);
        if (refusal != FINE) {
            return refusal;
        }
        if (!guesses.hear(sheets[sheet], i, n, strip.pictures)) {
            return NOT;
        }
        if (what == 1) {
            return guesses.wouldGo(strip) ? 1 : 0;
        }
        guesses.goThroughAll(strip.pictures);
        return what == 0 ? guesses.found : guesses.bestTry();
    }

    public int kinds(int sheet, int lane, int i, int n, int what) {
        if (!isSheet(sheet) || !isLane(lane) || !isWithin(n, 1, MOST_KIND_PAIRS) || !isWithin(what, 0, 1)) {
            return BAD;
        }
        int refusal = sheets[sheet].refusal(lane, i, 2 * n);
        if (refusal != FINE) {
            return refusal;
        }
        int set = Kinds.fitting(sheets[sheet], i, n);
        return what == 0 || set == NOT ? set : Kinds.bestTry(set);
    }

    public int count(int what) {
        switch (what) {
            case 0: return strip.pictures;
            case 1: return strip.isMissing() ? NONE : strip.front;
            case 2: return strip.isMissing() ? NONE : strip.back;
            case 3: return strip.effort;
            case 4: return strip.shownSet();
            case 5: return strip.tornSet();
            case 6: return strip.wearOfAll();
            case 7: return history.held;
            case 8: return tape.length;
            default: return BAD;
        }
    }

    private static boolean isWithin(int number, int least, int most) {
        return number >= least && number <= most;
    }

    private static boolean isSide(int side) {
        return side == RIGHT || side == LEFT;
    }

    private static boolean isSheet(int sheet) {
        return isWithin(sheet, 0, SHEETS - 1);
    }

    private static boolean isLane(int lane) {
        return isWithin(lane, 0, LANES - 1);
    }

    private static int greatestDivisor(int one, int other) {
        int a = one;
        int b = other;
        for (int k = 0; k < 64 && b != 0; k++) {
            int rest = a % b;
            a = b;
            b = rest;
        }
        return a;
    }

    /** KINDS by their numbers; each one but the topmost stands under another. */
    private static final class Kinds {
        private static final int PICTURE = 0, PLAIN = 1, GLOSSY = 2, THIN = 3, STIFF = 4, BOARD = 5;
        private static final int[] OVER = {NONE, PICTURE, PLAIN, PLAIN, PICTURE, STIFF};
        private static final int[] EFFORT_AT_FIRST = {0, 2, 1, 2, 4, 4};
        private static final int[] WEARS = {0, 1, 1, 2, 0, 0};
        private static final int MOST_SHOWN = 99, MOST_TRIED = 9;

        private static int byLetter(int letter) {
            switch (letter) {
                case 'p': return PLAIN;
                case 'g': return GLOSSY;
                case 't': return THIN;
                case 's': return STIFF;
                case 'b': return BOARD;
                default: return NONE;
            }
        }

        private static boolean isUnder(int kind, int asked) {
            int at = kind;
            for (int step = 0; step < OVER.length && at >= PICTURE && at < OVER.length; step++) {
                if (at == asked) {
                    return true;
                }
                at = OVER[at];
            }
            return false;
        }

        private static int effort(int kind, int shown) {
            if (kind < PLAIN || kind > BOARD) {
                return 0;
            }
            int first = EFFORT_AT_FIRST[kind];
            return kind == BOARD ? Math.max(1, first - shown) : first;
        }

        private static int wears(int kind) {
            return kind < PLAIN || kind > BOARD ? 0 : WEARS[kind];
        }

        /** The set of KINDS that all pairs of the SHEET allow; NOT, if a pair tells what cannot be. */
        private static int fitting(Sheet sheet, int i, int n) {
            int set = 0;
            for (int kind = PLAIN; kind <= BOARD; kind++) {
                set |= 1 << kind;
            }
            for (int pair = 0; pair < n; pair++) {
                long shown = sheet.at(i + 2 * pair);
                if (shown < 0 || shown > MOST_SHOWN) {
                    return NOT;
                }
                set &= taking((int) shown, sheet.at(i + 2 * pair + 1));
            }
            return set;
        }

        private static int taking(int shown, long effort) {
            int set = 0;
            for (int kind = PLAIN; kind <= BOARD; kind++) {
                if (effort(kind, shown) == effort) {
                    set |= 1 << kind;
                }
            }
            return set;
        }

        private static int bestTry(int set) {
            if (set == 0) {
                return NONE;
            }
            int best = 0;
            for (int shown = 1; shown <= MOST_TRIED; shown++) {
                if (greatestPart(set, shown) < greatestPart(set, best)) {
                    best = shown;
                }
            }
            return best;
        }

        private static int greatestPart(int set, int shown) {
            int greatest = 0;
            for (int kind = PLAIN; kind <= BOARD; kind++) {
                int alike = set & taking(shown, effort(kind, shown));
                greatest = Math.max(greatest, Integer.bitCount(alike));
            }
            return greatest;
        }
    }

    /** THE TAPE: bytes that wait to be read. */
    private static final class Tape {
        private static final int MOST_BYTES = 80, END = -1;
        private final int[] bytes = new int[MOST_BYTES];
        private int length;

        private int add(int letter) {
            if (length >= MOST_BYTES) {
                return FULL;
            }
            bytes[length] = letter;
            length++;
            return length;
        }

        private int at(int place) {
            return place >= 0 && place < length && place < MOST_BYTES ? bytes[place] : END;
        }

        private void empty() {
            length = 0;
        }
    }

    /** Reads a STRIP; its place stops at the first byte that cannot stand there. */
    private static final class Reader {
        private final Strip made = new Strip();
        private int place;

        private boolean readWhole(Tape tape) {
            made.reset();
            place = 0;
            return readSign(tape, 'x') && readPictures(tape)
                    && readSign(tape, ';') && readFolds(tape)
                    && readSign(tape, ';') && readShown(tape)
                    && place == tape.length;
        }

        private boolean readSign(Tape tape, int sign) {
            if (tape.at(place) != sign) {
                return false;
            }
            place++;
            return true;
        }

        private boolean readPictures(Tape tape) {
            for (int number = 0; number < MOST_PICTURES; number++) {
                if (!readPicture(tape)) {
                    return false;
                }
                boolean full = made.pictures == MOST_PICTURES;
                if (full || !readSign(tape, ',')) {
                    return made.pictures >= FEWEST_PICTURES;
                }
            }
            return false;
        }

        private boolean readPicture(Tape tape) {
            int kind = Kinds.byLetter(tape.at(place));
            if (kind < 0) {
                return false;
            }
            place++;
            int worth = figure(tape);
            if (worth < 0) {
                return false;
            }
            place++;
            int bears = figure(tape);
            if (bears < 1) {
                return false;
            }
            place++;
            made.addPicture(kind, worth, bears);
            return true;
        }

        private boolean readFolds(Tape tape) {
            made.layRing();
            int due = made.pictures - FEWEST_PICTURES;
            if (due == 0) {
                return readSign(tape, '-');
            }
            for (int fold = 0; fold < due; fold++) {
                if (fold > 0 && !readSign(tape, ',')) {
                    return false;
                }
                if (!readFold(tape)) {
                    return false;
                }
            }
            return true;
        }

        private boolean readFold(Tape tape) {
            int one = figure(tape);
            if (!made.has(one)) {
                return false;
            }
            place++;
            int other = figure(tape);
            if (!made.canJoin(one, other)) {
                return false;
            }
            place++;
            made.join(one, other);
            return true;
        }

        private boolean readShown(Tape tape) {
            int front = figure(tape);
            if (!made.has(front)) {
                return false;
            }
            place++;
            int back = figure(tape);
            if (!made.areLinked(front, back)) {
                return false;
            }
            place++;
            made.front = front;
            made.back = back;
            return true;
        }

        private int figure(Tape tape) {
            int letter = tape.at(place);
            return letter >= '0' && letter <= '9' ? letter - '0' : NONE;
        }
    }

    /** A STRIP as it is now; with no PICTURES there is none. */
    private static final class Strip {
        private final int[] kind = new int[MOST_PICTURES];
        private final int[] worth = new int[MOST_PICTURES];
        private final int[] bears = new int[MOST_PICTURES];
        private final int[] wear = new int[MOST_PICTURES];
        private final int[] shown = new int[MOST_PICTURES];
        private final int[] linked = new int[MOST_PICTURES];
        private int pictures;
        private int front;
        private int back;
        private int effort;

        private void reset() {
            pictures = 0;
            front = 0;
            back = 0;
            effort = 0;
        }

        private void takeFrom(Strip other) {
            System.arraycopy(other.kind, 0, kind, 0, MOST_PICTURES);
            System.arraycopy(other.worth, 0, worth, 0, MOST_PICTURES);
            System.arraycopy(other.bears, 0, bears, 0, MOST_PICTURES);
            System.arraycopy(other.wear, 0, wear, 0, MOST_PICTURES);
            System.arraycopy(other.shown, 0, shown, 0, MOST_PICTURES);
            System.arraycopy(other.linked, 0, linked, 0, MOST_PICTURES);
            pictures = other.pictures;
            front = other.front;
            back = other.back;
            effort = other.effort;
        }

        private void addPicture(int itsKind, int itsWorth, int itBears) {
            if (pictures < 0 || pictures >= MOST_PICTURES) {
                return;
            }
            kind[pictures] = itsKind;
            worth[pictures] = itsWorth;
            bears[pictures] = itBears;
            wear[pictures] = 0;
            shown[pictures] = 0;
            pictures++;
        }

        /** A ring of so many PICTURES without FOLDS, none of which can be TORN. */
        private void beBare(int many) {
            reset();
            for (int number = 0; number < many; number++) {
                addPicture(Kinds.PLAIN, 0, 1);
            }
            layRing();
        }

        private void layRing() {
            for (int number = 0; number < MOST_PICTURES; number++) {
                linked[number] = 0;
            }
            for (int number = 0; number < pictures; number++) {
                join(number, (number + 1) % pictures);
            }
        }

        private boolean isMissing() {
            return pictures == 0;
        }

        private boolean has(int picture) {
            return picture >= 0 && picture < pictures && picture < MOST_PICTURES;
        }

        private boolean areLinked(int one, int other) {
            return has(one) && has(other) && (linked[one] >> other & 1) == 1;
        }

        private boolean areNeighbours(int one, int other) {
            int apart = Math.abs(one - other);
            return apart == 1 || apart == pictures - 1;
        }

        private boolean isFold(int one, int other) {
            return areLinked(one, other) && !areNeighbours(one, other);
        }

        private boolean isShowing(int one, int other) {
            return front == one && back == other || front == other && back == one;
        }

        /** Whether a FOLD of the two can be added to those there are. */
        private boolean canJoin(int one, int other) {
            if (!has(one) || !has(other) || one == other || areLinked(one, other)) {
                return false;
            }
            int low = Math.min(one, other);
            int high = Math.max(one, other);
            for (int inside = low + 1; inside < high; inside++) {
                for (int outside = 0; outside < pictures; outside++) {
                    if ((outside < low || outside > high) && areLinked(inside, outside)) {
                        return false;
                    }
                }
            }
            return true;
        }

        private void join(int one, int other) {
            if (has(one) && has(other)) {
                linked[one] |= 1 << other;
                linked[other] |= 1 << one;
            }
        }

        private void part(int one, int other) {
            if (has(one) && has(other)) {
                linked[one] &= ~(1 << other);
                linked[other] &= ~(1 << one);
            }
        }

        /** The PICTURE on a side that makes a THREE with two that are LINKED, TORN or not; NONE. */
        private int third(int one, int other, int side) {
            if (!has(one) || !has(other)) {
                return NONE;
            }
            int both = linked[one] & linked[other];
            int from = side == RIGHT ? one : other;
            int to = side == RIGHT ? other : one;
            for (int step = 1; step < pictures; step++) {
                int between = (from + step) % pictures;
                if (between == to) {
                    return NONE;
                }
                if ((both >> between & 1) == 1) {
                    return between;
                }
            }
            return NONE;
        }

        private boolean isTorn(int picture) {
            return has(picture) && wear[picture] >= bears[picture];
        }

        private int effortOf(int picture) {
            return has(picture) ? Kinds.effort(kind[picture], shown[picture]) : 0;
        }

        /** FRONT behind a MOVE; NONE, if it MAY not be done. */
        private int comesBy(int move) {
            if (move == TURN) {
                return back;
            }
            int brought = third(front, back, move);
            return isTorn(brought) ? NONE : brought;
        }

        private boolean mayDo(int move) {
            return comesBy(move) >= 0;
        }

        private void go(int move) {
            int comes = comesBy(move);
            if (!has(comes)) {
                return;
            }
            if (move == TURN) {
                effort += TURN_EFFORT;
            } else {
                effort += effortOf(comes);
                wear[comes] += Kinds.wears(kind[comes]);
                shown[comes] = Math.min(Kinds.MOST_SHOWN, shown[comes] + 1);
            }
            back = front;
            front = comes;
        }

        private int worthOf(int picture) {
            return has(picture) ? worth[picture] : 0;
        }

        private int shownSet() {
            int set = 0;
            for (int picture = 0; picture < pictures; picture++) {
                if (shown[picture] > 0) {
                    set |= 1 << picture;
                }
            }
            return set;
        }

        private int tornSet() {
            int set = 0;
            for (int picture = 0; picture < pictures; picture++) {
                if (isTorn(picture)) {
                    set |= 1 << picture;
                }
            }
            return set;
        }

        private int wearOfAll() {
            int all = 0;
            for (int picture = 0; picture < pictures; picture++) {
                all += wear[picture];
            }
            return all;
        }
    }

    /** The STRIP as it was ahead of each of the latest ACTS. */
    private static final class History {
        private static final int MOST_ACTS = 24;
        private final Strip[] before = new Strip[MOST_ACTS];
        private int next;
        private int held;

        private History() {
            for (int k = 0; k < MOST_ACTS; k++) {
                before[k] = new Strip();
            }
        }

        private void keep(Strip strip) {
            before[next].takeFrom(strip);
            next = (next + 1) % MOST_ACTS;
            held = Math.min(MOST_ACTS, held + 1);
        }

        private boolean giveBack(Strip strip) {
            if (held == 0) {
                return false;
            }
            next = (next + MOST_ACTS - 1) % MOST_ACTS;
            held--;
            strip.takeFrom(before[next]);
            return true;
        }

        private void forget() {
            next = 0;
            held = 0;
        }
    }

    /** Where MOVES lead while nothing wears; a spot is FRONT and BACK as one number. */
    private static final class Paths {
        private static final int SPOTS = MOST_PICTURES * MOST_PICTURES;
        private static final int SETS = 1 << MOST_PICTURES;
        private static final int WORD = 32;
        /** 13 LINKS each way at most, each with the sets that hold FRONT. */
        private static final int MOST_STATES = 26 * SETS / 2;
        /** Above the MOVES of any way, so that EFFORT weighs first, then MOVES. */
        private static final int EFFORT_UNIT = 100;
        private static final int FAR = 1000000;

        private final int[] next = new int[SPOTS * MOVES];
        private final int[] least = new int[SPOTS];
        private final int[] firstSeen = new int[SPOTS * 2];
        private final int[] queue = new int[MOST_STATES];
        private final int[] queued = new int[SPOTS * SETS / WORD];
        private int start;

        private static int spotOf(int front, int back) {
            return front * MOST_PICTURES + back;
        }

        private static int frontOf(int spot) {
            return spot / MOST_PICTURES;
        }

        private void lay(Strip strip) {
            start = spotOf(strip.front, strip.back);
            for (int spot = 0; spot < SPOTS; spot++) {
                for (int move = 0; move < MOVES; move++) {
                    next[spot * MOVES + move] = spotBehind(strip, spot, move);
                }
            }
        }

        private static int spotBehind(Strip strip, int spot, int move) {
            int front = frontOf(spot);
            int back = spot % MOST_PICTURES;
            if (!strip.areLinked(front, back)) {
                return NONE;
            }
            if (move == TURN) {
                return spotOf(back, front);
            }
            int brought = strip.third(front, back, move);
            return brought < 0 || strip.isTorn(brought) ? NONE : spotOf(brought, front);
        }

        private int behind(int spot, int move) {
            boolean known = spot >= 0 && spot < SPOTS && move >= 0 && move < MOVES;
            return known ? next[spot * MOVES + move] : NONE;
        }

        private int reached() {
            long spots = 1L << start;
            for (int sweep = 0; sweep < SPOTS; sweep++) {
                long before = spots;
                for (int spot = 0; spot < SPOTS; spot++) {
                    if ((spots >> spot & 1) == 1) {
                        spots |= spotsOneMoveOn(spot);
                    }
                }
                if (spots == before) {
                    break;
                }
            }
            int pictures = 0;
            for (int spot = 0; spot < SPOTS; spot++) {
                if ((spots >> spot & 1) == 1) {
                    pictures |= 1 << frontOf(spot);
                }
            }
            return pictures;
        }

        private long spotsOneMoveOn(int spot) {
            long spots = 0;
            for (int move = 0; move < MOVES; move++) {
                int on = behind(spot, move);
                if (on >= 0) {
                    spots |= 1L << on;
                }
            }
            return spots;
        }

        /** Measures from each spot how far it is until the picture is FRONT. */
        private void measure(Strip strip, int picture) {
            for (int spot = 0; spot < SPOTS; spot++) {
                least[spot] = frontOf(spot) == picture ? 0 : FAR;
            }
            boolean changed = true;
            for (int sweep = 0; sweep < SPOTS && changed; sweep++) {
                changed = false;
                for (int spot = 0; spot < SPOTS; spot++) {
                    int nearer = leastOver(strip, spot);
                    if (nearer < least[spot]) {
                        least[spot] = nearer;
                        changed = true;
                    }
                }
            }
        }

        private int leastOver(Strip strip, int spot) {
            int best = FAR;
            for (int move = 0; move < MOVES; move++) {
                best = Math.min(best, lengthBy(strip, spot, move));
            }
            return best;
        }

        private int lengthBy(Strip strip, int spot, int move) {
            int on = behind(spot, move);
            if (on < 0 || on >= SPOTS) {
                return FAR;
            }
            int effort = move == TURN ? TURN_EFFORT : strip.effortOf(frontOf(on));
            return Math.min(FAR, effort * EFFORT_UNIT + 1 + least[on]);
        }

        private boolean hasWay() {
            return least[start] < FAR;
        }

        private int wayEffort() {
            return least[start] / EFFORT_UNIT;
        }

        private int wayMoves() {
            return least[start] % EFFORT_UNIT;
        }

        private int wayMove(Strip strip, int k) {
            if (k < 0 || k >= wayMoves()) {
                return NONE;
            }
            int spot = start;
            for (int step = 0; step < k; step++) {
                spot = behind(spot, firstBest(strip, spot));
            }
            return firstBest(strip, spot);
        }

        private int firstBest(Strip strip, int spot) {
            if (spot < 0 || spot >= SPOTS) {
                return NONE;
            }
            for (int move = 0; move < MOVES; move++) {
                if (lengthBy(strip, spot, move) == least[spot]) {
                    return move;
                }
            }
            return NONE;
        }

        /** The fewest MOVES by which each PICTURE of the set was FRONT, level by level. */
        private int fewestToSee(int all) {
            for (int word = 0; word < queued.length; word++) {
                queued[word] = 0;
            }
            int tail = enqueue(start, 0, 0);
            int levelEnd = tail;
            int moves = 0;
            for (int head = 0; head < MOST_STATES && head < tail; head++) {
                if (head == levelEnd) {
                    moves++;
                    levelEnd = tail;
                }
                int seen = queue[head] % SETS;
                if (seen == all) {
                    return moves;
                }
                for (int move = 0; move < MOVES; move++) {
                    tail = enqueue(behind(queue[head] / SETS, move), seen, tail);
                }
            }
            return NONE;
        }

        private int enqueue(int spot, int seenBefore, int tail) {
            if (spot < 0 || spot >= SPOTS || tail < 0 || tail >= MOST_STATES) {
                return tail;
            }
            int state = spot * SETS + (seenBefore | 1 << frontOf(spot));
            int bit = 1 << state % WORD;
            if ((queued[state / WORD] & bit) != 0) {
                return tail;
            }
            queued[state / WORD] |= bit;
            queue[tail] = state;
            return tail + 1;
        }

        /** The MOVE by which ROUND goes on: the side, else the other side, else a TURN. */
        private int moveOfCircle(int spot, int side) {
            if (behind(spot, side) >= 0) {
                return side;
            }
            return behind(spot, 1 - side) >= 0 ? 1 - side : TURN;
        }

        private int movesAheadOfCircle() {
            return circle(true);
        }

        private int movesOfCircle() {
            return circle(false);
        }

        private int circle(boolean ahead) {
            for (int k = 0; k < firstSeen.length; k++) {
                firstSeen[k] = NONE;
            }
            int spot = start;
            for (int moves = 0; moves <= firstSeen.length; moves++) {
                int side = moves % 2;
                int seen = spot * 2 + side;
                if (seen < 0 || seen >= firstSeen.length) {
                    return NONE;
                }
                if (firstSeen[seen] >= 0) {
                    return ahead ? firstSeen[seen] : moves - firstSeen[seen];
                }
                firstSeen[seen] = moves;
                spot = behind(spot, moveOfCircle(spot, side));
            }
            return NONE;
        }

        private void writeCircle(Sheet sheet, int i, int n) {
            int spot = start;
            for (int moves = 0; moves < n; moves++) {
                spot = behind(spot, moveOfCircle(spot, moves % 2));
                sheet.put(i + moves, frontOf(spot));
            }
        }
    }

    /** What comes while WEAR goes on; a STRIP for each number of MOVES that are left. */
    private static final class Going {
        private static final long FACTOR = 16807L, MODULUS = 2147483647L;
        /** More than a DUEL can be about; a TURN MAY always be done, so it never stays. */
        private static final int FAR_BEHIND = 1000;
        private final Strip[] withLeft = new Strip[MOST_FORESEEN + 1];

        private Going() {
            for (int k = 0; k < withLeft.length; k++) {
                withLeft[k] = new Strip();
            }
        }

        /** Of ten to the power of n parts, how many end with the picture in FRONT. */
        private int partsOf(Strip strip, int n, int picture, int q) {
            if (n < 0 || n >= withLeft.length) {
                return 0;
            }
            withLeft[n].takeFrom(strip);
            return parts(n, picture, q);
        }

        private int parts(int left, int picture, int q) {
            if (left <= 0 || left >= withLeft.length) {
                return withLeft[0].front == picture ? 1 : 0;
            }
            int sum = 0;
            for (int side = RIGHT; side <= LEFT; side++) {
                int weight = side == RIGHT ? q : TENTHS - q;
                if (weight > 0) {
                    goOn(left, withLeft[left].mayDo(side) ? side : TURN);
                    sum += weight * parts(left - 1, picture, q);
                }
            }
            return sum;
        }

        private int gainOf(Strip strip, int n) {
            if (n < 0 || n >= withLeft.length) {
                return 0;
            }
            withLeft[n].takeFrom(strip);
            return gain(n);
        }

        private int gain(int left) {
            if (left <= 0 || left >= withLeft.length) {
                return 0;
            }
            int best = -FAR_BEHIND;
            for (int move = 0; move < MOVES; move++) {
                int comes = withLeft[left].comesBy(move);
                if (comes >= 0) {
                    int gets = move == TURN ? 0 : withLeft[left].worthOf(comes);
                    goOn(left, move);
                    best = Math.max(best, gets - gain(left - 1));
                }
            }
            return best;
        }

        private void goOn(int left, int move) {
            if (left > 0 && left < withLeft.length) {
                withLeft[left - 1].takeFrom(withLeft[left]);
                withLeft[left - 1].go(move);
            }
        }

        private Strip drawn(Strip strip, int n, int seed) {
            Strip last = withLeft[0];
            last.takeFrom(strip);
            long x = seed;
            for (int k = 0; k < n; k++) {
                x = FACTOR * x % MODULUS;
                int move = (int) (x / 8 % MOVES);
                last.go(last.mayDo(move) ? move : TURN);
            }
            return last;
        }
    }

    /** A row of a LANE, or nothing; its items are held as longs, each cut to its LANE. */
    private static final class Sheet {
        private static final int NO_LANE = -1;
        private static final int BYTES = 0, SHORTS = 1, INTS = 2;
        private final long[] items = new long[MOST_ITEMS];
        private int lane = NO_LANE;
        private int size;

        private void lay(int itsLane, int n) {
            lane = itsLane;
            size = n;
            for (int i = 0; i < MOST_ITEMS; i++) {
                items[i] = 0;
            }
        }

        private void clear() {
            lane = NO_LANE;
            size = 0;
        }

        private boolean isNothing() {
            return lane == NO_LANE;
        }

        private boolean spans(int i, int n) {
            return n >= 0 && n <= size && i >= 0 && i <= size - n;
        }

        /** Why n items from i on cannot be taken as a row of a LANE; FINE, if they can. */
        private int refusal(int asLane, int i, int n) {
            if (isNothing()) {
                return NULL;
            }
            if (lane != asLane) {
                return CAST;
            }
            return spans(i, n) ? FINE : INDEX;
        }

        private long at(int i) {
            return i >= 0 && i < size && i < MOST_ITEMS ? items[i] : 0;
        }

        private long put(int i, long v) {
            if (i < 0 || i >= size || i >= MOST_ITEMS) {
                return INDEX;
            }
            items[i] = cutToLane(v);
            return items[i];
        }

        private long cutToLane(long v) {
            switch (lane) {
                case BYTES: return (byte) v;
                case SHORTS: return (short) v;
                case INTS: return (int) v;
                default: return v;
            }
        }
    }

    /** Goes through all FOLDINGS of a ring and looks in which of them it would go as told. */
    private static final class Foldings {
        /** A ring of 8 has 8 * 5 / 2 pairs that are no neighbours. */
        private static final int MOST_PAIRS = 20;
        /** What a MOVE can bring: each PICTURE, or nothing. */
        private static final int OUTCOMES = MOST_PICTURES + 1;

        private final Strip trial = new Strip();
        private final int[] ones = new int[MOST_PAIRS];
        private final int[] others = new int[MOST_PAIRS];
        private final int[] crossed = new int[MOST_PAIRS];
        private final int[] toldMoves = new int[MOST_TOLD_MOVES];
        private final int[] toldFronts = new int[MOST_TOLD_MOVES];
        private final int[] parts = new int[2 * OUTCOMES];
        private int pairs;
        private int told;
        private int firstFront;
        private int firstBack;
        private int lastFront;
        private int lastBack;
        private int found;

        /** Takes what the SHEET tells, if it is told of PICTURES and MOVES alone. */
        private boolean hear(Sheet sheet, int i, int n, int pictures) {
            if (n > MOST_TOLD_MOVES || !isBelow(sheet.at(i), pictures) || !isBelow(sheet.at(i + 1), pictures)) {
                return false;
            }
            firstFront = (int) sheet.at(i);
            firstBack = (int) sheet.at(i + 1);
            told = n;
            for (int k = 0; k < n; k++) {
                long move = sheet.at(i + 2 + 2 * k);
                long front = sheet.at(i + 3 + 2 * k);
                if (!isBelow(move, MOVES) || !isBelow(front, pictures)) {
                    return false;
                }
                toldMoves[k] = (int) move;
                toldFronts[k] = (int) front;
            }
            return firstFront != firstBack;
        }

        private static boolean isBelow(long number, int bound) {
            return number >= 0 && number < bound;
        }

        /** Whether it would go as told in the FOLDING of a STRIP, be it TORN or not. */
        private boolean wouldGo(Strip folded) {
            int front = firstFront;
            int back = firstBack;
            if (!folded.areLinked(front, back)) {
                return false;
            }
            for (int k = 0; k < told && k < MOST_TOLD_MOVES; k++) {
                int comes = toldMoves[k] == TURN ? back : folded.third(front, back, toldMoves[k]);
                if (comes != toldFronts[k]) {
                    return false;
                }
                back = front;
                front = comes;
            }
            lastFront = front;
            lastBack = back;
            return true;
        }

        private void goThroughAll(int pictures) {
            found = 0;
            for (int k = 0; k < parts.length; k++) {
                parts[k] = 0;
            }
            trial.beBare(pictures);
            listPairs();
            choose(0, 0, pictures - FEWEST_PICTURES);
        }

        private void listPairs() {
            pairs = 0;
            for (int one = 0; one < trial.pictures; one++) {
                for (int other = one + 2; other < trial.pictures; other++) {
                    if (!trial.areNeighbours(one, other) && pairs < MOST_PAIRS) {
                        ones[pairs] = one;
                        others[pairs] = other;
                        pairs++;
                    }
                }
            }
            for (int pair = 0; pair < pairs; pair++) {
                crossed[pair] = crossedBy(pair);
            }
        }

        private int crossedBy(int pair) {
            int set = 0;
            for (int k = 0; k < pairs; k++) {
                boolean oneInside = ones[k] > ones[pair] && ones[k] < others[pair];
                boolean otherInside = others[k] > ones[pair] && others[k] < others[pair];
                boolean meet = ones[k] == ones[pair] || ones[k] == others[pair]
                        || others[k] == ones[pair] || others[k] == others[pair];
                if (!meet && oneInside != otherInside) {
                    set |= 1 << k;
                }
            }
            return set;
        }

        /** Adds FOLDS in the order of the pairs, so that no FOLDING comes twice. */
        private void choose(int from, int barred, int left) {
            if (left <= 0) {
                weigh();
                return;
            }
            for (int pair = from; pair < pairs && pair < MOST_PAIRS; pair++) {
                if ((barred >> pair & 1) == 0) {
                    trial.join(ones[pair], others[pair]);
                    choose(pair + 1, barred | crossed[pair], left - 1);
                    trial.part(ones[pair], others[pair]);
                }
            }
        }

        private void weigh() {
            if (!wouldGo(trial)) {
                return;
            }
            found++;
            for (int side = RIGHT; side <= LEFT; side++) {
                int brought = trial.third(lastFront, lastBack, side);
                int outcome = trial.has(brought) ? brought : MOST_PICTURES;
                parts[side * OUTCOMES + outcome]++;
            }
        }

        private int bestTry() {
            if (found == 0) {
                return NONE;
            }
            return greatestPart(LEFT) < greatestPart(RIGHT) ? LEFT : RIGHT;
        }

        private int greatestPart(int side) {
            int greatest = 0;
            for (int outcome = 0; outcome < OUTCOMES; outcome++) {
                greatest = Math.max(greatest, parts[side * OUTCOMES + outcome]);
            }
            return greatest;
        }
    }
}
