import java.util.Arrays;

/**
 * A frame of fuses by a lake on which letters are to burn. README.md says how it is used; the
 * words of its document (knot, fuse, match, letter, law, orders) are used here as they are there.
 */
public final class FuseFrames {
    public static final int NONE = -1;

    private static final int KNOTS = 8;
    private static final int ALL_KNOTS = 255;
    private static final int FUSES = 10;
    private static final int ALL_FUSES = 1023;
    private static final int LONGEST = 60;
    private static final int KINDS = 4;
    private static final int LETTERS = 3;
    private static final int SEEN = 6;
    private static final int LAWS = 6;
    private static final int IMAGES = 2;
    private static final int UNDOABLE = 16;
    private static final int MOST_MATCHES = 3;
    private static final int WIDEST_SPAN = 400;
    private static final int LAST_SECOND = 999;
    private static final int MOST_BURN = 99;
    private static final int MOST_HOLD = 9;

    private static final int SECOND = 0;
    private static final int RAIN = 1;
    private static final int MOOD = 2;
    private static final int TERMS = 3;

    private static final int WRONG = -1;
    private static final int MISSING = -2;
    private static final int IMPOSSIBLE = -3;
    private static final int FULL = -5;
    private static final int UNREADABLE = -6;

    private static final int LIT = 0;
    private static final int SOAKED = 1;
    private static final int SWAPPED = 2;
    private static final int PASSED = 3;

    private static final int TAPE = 400;
    private static final int FED = 20;
    private static final int CLAUSES = 12;
    private static final int PARTS = 50;
    private static final int BRACKETS = 8;
    private static final int LARGEST_NUMBER = 1000;
    private static final int MOST_TIMES = 20;

    private static final int TEXT_ENDS = 0;
    private static final int IS_NUMBER = 1;
    private static final int IS_WORD = 2;
    private static final int IS_SIGN = 3;

    private static final int W_BURNS = 0;
    private static final int W_HOLDS = 1;
    private static final int W_BARS = 2;
    private static final int W_LIGHT = 3;
    private static final int W_SOAK = 4;
    private static final int W_SWAP = 5;
    private static final int W_PASS = 6;
    private static final int W_IF = 7;
    private static final int W_TIMES = 8;
    private static final int W_WITH = 9;
    private static final int W_OR = 10;
    private static final int W_AND = 11;
    private static final int W_NOT = 12;
    // Laws know the words fuse .. second, orders the words long .. lit: two rows that overlap.
    private static final int W_FUSE = 13;
    private static final int W_KIND = 14;
    private static final int W_FROM = 15;
    private static final int W_TO = 16;
    private static final int W_KNOT = 17;
    private static final int W_ENDS = 18;
    private static final int W_MOOD = 19;
    private static final int W_LONG = 20;
    private static final int W_SECOND = 21;
    private static final int W_DONE = 22;
    private static final int W_LATEST = 23;
    private static final int W_GONE = 24;
    private static final int W_DAMP = 25;
    private static final int W_LIT = 26;
    private static final int WORDS = 27;

    // A fact is what a word stands for when a sum is asked; "lit" and "long" of orders have one each
    // for every knot and fuse.
    private static final int LIT_FACTS = W_LIT - W_FUSE;
    private static final int LONG_FACTS = LIT_FACTS + KNOTS;
    private static final int FACTS = LONG_FACTS + FUSES;

    private static final int OP_STOP = 0;
    private static final int OP_NUMBER = 1;
    private static final int OP_FACT = 2;
    private static final int OP_PLUS = 3;
    private static final int OP_MINUS = 4;
    private static final int OP_TIMES = 5;
    private static final int OP_DIVIDED = 6;
    private static final int OP_LEFT = 7;
    private static final int OP_LESS = 8;
    private static final int OP_MORE = 9;
    private static final int OP_SAME = 10;
    private static final int OP_NOT = 11;
    private static final int OP_OR = 12;
    private static final int OP_AND = 13;
    private static final int OP_SHIFT = 10;
    private static final int ARGUMENT = 1023;

    private static final int STACK = 64;
    private static final int SUM_LIMIT = 1_000_000_000;
    private static final int BROKEN = -2_000_000_000;

    private static final int LARGEST_SEED = 1_000_000;
    private static final int MOST_EVENINGS = 60;
    private static final int MOST_FEW = 20;
    private static final int MOST_FIRES = 99;
    private static final long WHOLE_CHANCE = 1_000_000_000_000L;

    private final Frame frame = new Frame();
    private final Frame spare = new Frame();
    private final Frame evening = new Frame();
    private final Frame[] images = new Frame[IMAGES];
    private final Log log = new Log();
    private final Log spareLog = new Log();
    private final Tape tape = new Tape();
    private final Reader reader = new Reader();
    private final Sums sums = new Sums();
    private final Fire fire = new Fire();
    private final int[] facts = new int[FACTS];
    private final int[] refusals = new int[-UNREADABLE];
    private final long[] chances = new long[MOST_FEW];
    private int ash = 0;
    private int fault = NONE;
    private int stopped = NONE;
    private int status = 0;

    public FuseFrames() {
    }

    // ---- the frame

    public int fuse(int from, int to, int length, int kind) {
        if (!Frame.fuseCanBe(from, to, length, kind)) {
            return refused(WRONG);
        }
        if (frame.fuses >= FUSES) {
            return refused(FULL);
        }
        log.kept = 0;
        return answered(frame.tie(from, to, length, kind));
    }

    public int of(int fuse, int what) {
        if (!frame.hasFuse(fuse)) {
            return NONE;
        }
        switch (what) {
            case 0: return frame.from[fuse];
            case 1: return frame.to[fuse];
            case 2: return frame.length[fuse];
            case 3: return frame.kind[fuse];
            case 4: return bit(frame.damp, fuse);
            default: return burning(fuse, what);
        }
    }

    private int burning(int fuse, int what) {
        if (what < 5 || what > 7) {
            return NONE;
        }
        fire.measure(frame, frame.lawInForce());
        if (what == 5) {
            return fire.burns[fuse];
        }
        if (what == 6) {
            return bit(fire.catching, fuse);
        }
        fire.spreadFromMatches(frame);
        return fire.outOf(frame, fuse);
    }

    public int at(int knot, int what) {
        if (!isKnot(knot)) {
            return NONE;
        }
        if (what == 0) {
            return frame.match[knot];
        }
        if (what != 1 && what != 2) {
            return NONE;
        }
        fire.measure(frame, frame.lawInForce());
        if (what == 1) {
            return fire.holds[knot];
        }
        fire.spreadFromMatches(frame);
        return fire.comes[knot];
    }

    public int letter(int fuses) {
        if (fuses < 0 || fuses > ALL_FUSES) {
            return refused(WRONG);
        }
        if (frame.letters >= LETTERS) {
            return refused(FULL);
        }
        frame.letter[frame.letters] = fuses;
        frame.letters++;
        return answered(frame.letters - 1);
    }

    public int terms(int what, int value) {
        if (what < 0 || what >= TERMS || value < 0 || value > mostOfTerm(what)) {
            return refused(WRONG);
        }
        int before = frame.term[what];
        frame.term[what] = value;
        log.kept = 0;
        return answered(before);
    }

    private static int mostOfTerm(int what) {
        switch (what) {
            case SECOND: return LAST_SECOND;
            case RAIN: return 10;
            default: return 9;
        }
    }

    // ---- the tape

    public int feed(int a, int b, int c, int d, int e) {
        if (tape.length > TAPE - FED) {
            return NONE;
        }
        tape.add(a);
        tape.add(b);
        tape.add(c);
        tape.add(d);
        tape.add(e);
        return tape.length;
    }

    public int end(int n) {
        if (n < 0 || n > tape.length) {
            return NONE;
        }
        tape.length = n;
        return n;
    }

    public int row() {
        if (tape.length == 0) {
            return refused(UNREADABLE);
        }
        int came = 0;
        ash = 0;
        for (int at = 0; at < tape.length; at += 4) {
            if (tieFromTape(at)) {
                came++;
            } else {
                ash++;
            }
        }
        tape.length = 0;
        log.kept = 0;
        return answered(came);
    }

    private boolean tieFromTape(int at) {
        if (at + 4 > tape.length || frame.fuses >= FUSES) {
            return false;
        }
        int from = tape.bytes[at];
        int to = tape.bytes[at + 1];
        int length = tape.bytes[at + 2];
        int kind = tape.bytes[at + 3];
        if (!Frame.fuseCanBe(from, to, length, kind)) {
            return false;
        }
        frame.tie(from, to, length, kind);
        return true;
    }

    public int ash() {
        return ash;
    }

    // ---- laws and orders

    public int law() {
        if (frame.laws >= LAWS) {
            tape.length = 0;
            return refused(FULL);
        }
        reader.read(tape, true);
        fault = reader.fault;
        tape.length = 0;
        if (fault != NONE) {
            return refused(UNREADABLE);
        }
        frame.law[frame.laws] = reader.script.copied();
        frame.laws++;
        return answered(frame.laws - 1);
    }

    public int orders() {
        reader.read(tape, false);
        fault = reader.fault;
        tape.length = 0;
        stopped = NONE;
        if (fault != NONE) {
            return refused(UNREADABLE);
        }
        spare.become(frame);
        spareLog.become(log);
        Script script = reader.script;
        facts[W_DONE - W_FUSE] = 0;
        facts[W_LATEST - W_FUSE] = NONE;
        if (script.asksGone) {
            facts[W_GONE - W_FUSE] = goneIn(frame);
        }
        for (int clause = 0; clause < script.clauses; clause++) {
            if (!ran(script, clause)) {
                stopped = clause;
                frame.become(spare);
                log.become(spareLog);
                return refused(IMPOSSIBLE);
            }
        }
        return answered(facts[W_DONE - W_FUSE]);
    }

    private boolean ran(Script script, int clause) {
        int verb = script.verb[clause];
        for (int time = 0; time < script.times[clause] && time < MOST_TIMES; time++) {
            tellFacts();
            if (!isSo(script, script.test[clause])) {
                continue;
            }
            int one = asked(script, script.one[clause]);
            int other = asked(script, script.other[clause]);
            if (deed(verb, one, other) < 0) {
                return false;
            }
            facts[W_DONE - W_FUSE]++;
            if (script.asksGone) {
                facts[W_GONE - W_FUSE] = goneIn(frame);
            }
            if (verb == W_PASS) {
                facts[W_LATEST - W_FUSE] = facts[W_GONE - W_FUSE];
            }
        }
        return true;
    }

    private void tellFacts() {
        facts[W_SECOND - W_FUSE] = frame.term[SECOND];
        facts[W_DAMP - W_FUSE] = Integer.bitCount(frame.damp);
        for (int knot = 0; knot < KNOTS; knot++) {
            facts[LIT_FACTS + knot] = frame.match[knot];
        }
        for (int fuse = 0; fuse < FUSES; fuse++) {
            facts[LONG_FACTS + fuse] = fuse < frame.fuses ? frame.length[fuse] : NONE;
        }
    }

    private boolean isSo(Script script, int test) {
        if (test == NONE) {
            return true;
        }
        int so = sums.ask(script, test, facts);
        return so != BROKEN && so != 0;
    }

    // A broken sum is no knot's and no fuse's number, so the deed is refused by it.
    private int asked(Script script, int sum) {
        return sum == NONE ? BROKEN : sums.ask(script, sum, facts);
    }

    private int deed(int verb, int one, int other) {
        switch (verb) {
            case W_LIGHT: return lightMatch(one);
            case W_SOAK: return soakFuse(one);
            case W_SWAP: return swapFuses(one, other);
            default: return passSecond();
        }
    }

    public int fault() {
        return fault;
    }

    public int stopped() {
        return stopped;
    }

    public int force(int law) {
        if (law != NONE && (law < 0 || law >= frame.laws)) {
            return refused(MISSING);
        }
        int before = frame.force;
        frame.force = law;
        return answered(before);
    }

    // ---- deeds

    public int light(int knot) {
        return answeredOrRefused(lightMatch(knot));
    }

    private int lightMatch(int knot) {
        if (!isKnot(knot)) {
            return WRONG;
        }
        if (frame.match[knot] != NONE) {
            return IMPOSSIBLE;
        }
        frame.match[knot] = frame.term[SECOND];
        log.keep(LIT, knot, NONE);
        return frame.term[SECOND];
    }

    public int soak(int fuse) {
        return answeredOrRefused(soakFuse(fuse));
    }

    private int soakFuse(int fuse) {
        if (!frame.hasFuse(fuse)) {
            return MISSING;
        }
        frame.damp ^= 1 << fuse;
        log.keep(SOAKED, fuse, NONE);
        return bit(frame.damp, fuse);
    }

    public int swap(int one, int other) {
        return answeredOrRefused(swapFuses(one, other));
    }

    private int swapFuses(int one, int other) {
        if (one == other) {
            return WRONG;
        }
        if (!frame.hasFuse(one) || !frame.hasFuse(other)) {
            return MISSING;
        }
        frame.swapLengths(one, other);
        log.keep(SWAPPED, one, other);
        return frame.length[one];
    }

    public int pass() {
        int refusal = passSecond();
        if (refusal < 0) {
            return refused(refusal);
        }
        return answered(goneIn(frame));
    }

    private int passSecond() {
        if (frame.term[SECOND] >= LAST_SECOND) {
            return IMPOSSIBLE;
        }
        frame.term[SECOND]++;
        log.keep(PASSED, NONE, NONE);
        return 0;
    }

    public int undo() {
        if (log.kept <= 0) {
            return refused(IMPOSSIBLE);
        }
        log.kept--;
        int one = log.one[log.kept];
        int deed = log.deed[log.kept];
        switch (deed) {
            case LIT:
                frame.match[one] = NONE;
                break;
            case SOAKED:
                frame.damp ^= 1 << one;
                break;
            case SWAPPED:
                frame.swapLengths(one, log.other[log.kept]);
                break;
            default:
                frame.term[SECOND]--;
                break;
        }
        return answered(deed);
    }

    private int goneIn(Frame which) {
        fire.measure(which, which.lawInForce());
        fire.spreadFromMatches(which);
        return fire.gone(which);
    }

    // ---- on paper

    public int when(int knots, int knot) {
        if (!areKnots(knots) || !isKnot(knot)) {
            return NONE;
        }
        burnOnPaper(knots);
        return fire.comes[knot];
    }

    private void burnOnPaper(int knots) {
        fire.measure(frame, frame.lawInForce());
        fire.spreadFrom(frame, knots);
    }

    public int out(int knots, int fuse) {
        if (!areKnots(knots) || !frame.hasFuse(fuse)) {
            return NONE;
        }
        burnOnPaper(knots);
        return fire.outOf(frame, fuse);
    }

    public int stands(int knots, int letter) {
        if (!areKnots(knots) || letter < 0 || letter >= frame.letters) {
            return NONE;
        }
        burnOnPaper(knots);
        return fire.lastOut(frame, frame.letter[letter]);
    }

    public int best(int n, int what) {
        if (n < 1 || n > MOST_MATCHES || !isPair(what)) {
            return NONE;
        }
        fire.measure(frame, frame.lawInForce());
        int soonest = NONE;
        int where = NONE;
        for (int knots = 1; knots <= ALL_KNOTS; knots++) {
            if (Integer.bitCount(knots) != n) {
                continue;
            }
            fire.spreadFrom(frame, knots);
            int last = fire.lastOut(frame, ALL_FUSES);
            if (isSooner(last, soonest)) {
                soonest = last;
                where = knots;
            }
        }
        return what == 0 ? soonest : where;
    }

    public int even(int what) {
        if (!isPair(what) || frame.letters == 0) {
            return NONE;
        }
        fire.measure(frame, frame.lawInForce());
        int least = NONE;
        int where = NONE;
        for (int knot = 0; knot < KNOTS; knot++) {
            fire.spreadFrom(frame, 1 << knot);
            int behind = latestBehindEarliest();
            if (isSooner(behind, least)) {
                least = behind;
                where = knot;
            }
        }
        return what == 0 ? where : least;
    }

    private int latestBehindEarliest() {
        int latest = NONE;
        int earliest = NONE;
        for (int letter = 0; letter < frame.letters; letter++) {
            int stands = fire.lastOut(frame, frame.letter[letter]);
            if (stands == NONE) {
                return NONE;
            }
            latest = Math.max(latest, stands);
            earliest = earliest == NONE ? stands : Math.min(earliest, stands);
        }
        return latest - earliest;
    }

    public int centre(int what) {
        if (!isPair(what)) {
            return NONE;
        }
        fire.measure(frame, frame.lawInForce());
        int soonest = NONE;
        int where = NONE;
        for (int knot = 0; knot < KNOTS; knot++) {
            fire.spreadFrom(frame, 1 << knot);
            int everywhere = fire.comesEverywhere();
            if (isSooner(everywhere, soonest)) {
                soonest = everywhere;
                where = knot;
            }
        }
        return what == 0 ? where : soonest;
    }

    public int way(int from, int to, int i) {
        if (!isKnot(from) || !isKnot(to) || i < NONE) {
            return NONE;
        }
        fire.measure(frame, frame.lawInForce());
        int left = fire.fromTo(frame, from, to);
        if (left == NONE || i == NONE) {
            return left;
        }
        int here = from;
        // A soonest way never comes to a knot twice, so it has fewer fuses than there are knots.
        for (int step = 0; step < KNOTS && here != to; step++) {
            int fuse = nextOnWay(here, to, left);
            if (fuse == NONE || step == i) {
                return fuse;
            }
            left -= fire.holds[here] + fire.burns[fuse];
            here = frame.otherEnd(fuse, here);
        }
        return NONE;
    }

    private int nextOnWay(int here, int to, int left) {
        for (int fuse = 0; fuse < frame.fuses; fuse++) {
            if (bit(fire.catching, fuse) == 0 || !frame.isTied(fuse, here)) {
                continue;
            }
            int rest = fire.fromTo(frame, frame.otherEnd(fuse, here), to);
            if (rest != NONE && fire.holds[here] + fire.burns[fuse] + rest == left) {
                return fuse;
            }
        }
        return NONE;
    }

    // Fewest fuses that part two knots are always just those between some set of knots with the one
    // and the others with the other, so the sets are gone through, not the fuses.
    public int cut(int from, int to, int what) {
        if (!isKnot(from) || !isKnot(to) || from == to || !isPair(what)) {
            return NONE;
        }
        fire.measure(frame, frame.lawInForce());
        int fewest = FUSES + 1;
        int lowest = NONE;
        for (int side = 0; side <= ALL_KNOTS; side++) {
            if (bit(side, from) == 0 || bit(side, to) == 1) {
                continue;
            }
            int between = fire.between(frame, side);
            int many = Integer.bitCount(between);
            if (many < fewest || many == fewest && between < lowest) {
                fewest = many;
                lowest = between;
            }
        }
        return what == 0 ? fewest : lowest;
    }

    public int exchanged(int knot, int what) {
        if (!isKnot(knot) || !isPair(what)) {
            return NONE;
        }
        fire.measure(frame, frame.lawInForce());
        fire.spreadFrom(frame, 1 << knot);
        int soonest = fire.lastOut(frame, ALL_FUSES);
        int twos = NONE;
        if (soonest == NONE) {
            return NONE;
        }
        for (int one = 0; one < frame.fuses; one++) {
            for (int other = one + 1; other < frame.fuses; other++) {
                swapOnPaper(one, other);
                fire.spreadFrom(frame, 1 << knot);
                int last = fire.lastOut(frame, ALL_FUSES);
                swapOnPaper(one, other);
                if (isSooner(last, soonest)) {
                    soonest = last;
                    twos = 10 * one + other;
                }
            }
        }
        if (twos == NONE) {
            return NONE;
        }
        return what == 0 ? twos : soonest;
    }

    private void swapOnPaper(int one, int other) {
        frame.swapLengths(one, other);
        fire.measureFuse(frame, frame.lawInForce(), one);
        fire.measureFuse(frame, frame.lawInForce(), other);
    }

    public int measured(int h, int what) {
        if (h < 1 || h > WIDEST_SPAN || !isPair(what)) {
            return NONE;
        }
        fire.measure(frame, frame.lawInForce());
        for (int knot = 0; knot < KNOTS; knot++) {
            fire.spreadFrom(frame, 1 << knot);
            int twos = fire.spans(frame, h);
            if (twos > 0) {
                return what == 0 ? knot : twos;
            }
        }
        return NONE;
    }

    // ---- what was seen

    public int seen(int knot, int seconds) {
        if (!isKnot(knot) || seconds < 0 || seconds > LAST_SECOND) {
            return refused(WRONG);
        }
        if (frame.seen >= SEEN) {
            return refused(FULL);
        }
        frame.seenKnot[frame.seen] = knot;
        frame.seenSeconds[frame.seen] = seconds;
        frame.seen++;
        return answered(frame.seen);
    }

    public int forget() {
        int before = frame.seen;
        frame.seen = 0;
        return before;
    }

    public int was() {
        fire.measure(frame, frame.lawInForce());
        return wasAt();
    }

    private int wasAt() {
        int knots = 0;
        for (int knot = 0; knot < KNOTS; knot++) {
            fire.spreadFrom(frame, 1 << knot);
            if (fire.isAsSeen(frame)) {
                knots |= 1 << knot;
            }
        }
        return knots;
    }

    public int look(int what) {
        if (!isPair(what)) {
            return NONE;
        }
        fire.measure(frame, frame.lawInForce());
        int knots = wasAt();
        if (knots == 0) {
            return NONE;
        }
        int fewest = NONE;
        int where = NONE;
        for (int knot = 0; knot < KNOTS; knot++) {
            int left = fire.mostAlike(frame, knots, knot);
            if (isSooner(left, fewest)) {
                fewest = left;
                where = knot;
            }
        }
        return what == 0 ? where : fewest;
    }

    public int wet(int from, int to, int seconds) {
        if (!isKnot(from) || !isKnot(to) || seconds < NONE || seconds > LAST_SECOND) {
            return NONE;
        }
        fire.measure(frame, frame.lawInForce());
        int catching = fire.catching;
        int fuses = 0;
        for (int fuse = 0; fuse < frame.fuses; fuse++) {
            if (bit(frame.damp, fuse) == 1) {
                continue;
            }
            fire.catching = catching & ~(1 << fuse);
            if (fire.fromTo(frame, from, to) == seconds) {
                fuses |= 1 << fuse;
            }
        }
        return fuses;
    }

    public long few(int k, int n) {
        if (k < 1 || k > MOST_FEW || n < 0 || n > MOST_FIRES) {
            return NONE;
        }
        int goesOut = frame.term[RAIN];
        int burnsOn = 10 - goesOut;
        Arrays.fill(chances, 0L);
        chances[0] = WHOLE_CHANCE;
        for (int fires = 0; fires < n; fires++) {
            for (int many = k - 1; many > 0; many--) {
                chances[many] = chances[many] * burnsOn / 10 + chances[many - 1] * goesOut / 10;
            }
            chances[0] = chances[0] * burnsOn / 10;
        }
        long fewer = 0;
        for (int many = 0; many < k; many++) {
            fewer += chances[many];
        }
        return fewer;
    }

    public int compare(int law, int knot) {
        if (law < NONE || law >= frame.laws || !isKnot(knot)) {
            return NONE;
        }
        fire.measure(frame, frame.lawOf(law));
        fire.spreadFrom(frame, 1 << knot);
        return fire.lastOut(frame, ALL_FUSES);
    }

    // ---- evenings, images, counts

    public int evenings(int seed, int n) {
        if (seed < 0 || seed > LARGEST_SEED || n < 1 || n > MOST_EVENINGS) {
            return refused(WRONG);
        }
        if (frame.fuses <= 0) {
            return refused(IMPOSSIBLE);
        }
        evening.become(frame);
        int drawn = seed;
        for (int time = 0; time < n && evening.term[SECOND] < LAST_SECOND; time++) {
            drawn = nextDraw(drawn);
            int fuse = drawn % frame.fuses;
            drawn = nextDraw(drawn);
            int knot = drawn % KNOTS;
            drawn = nextDraw(drawn);
            evening.happen(drawn % 3, fuse, knot);
        }
        return answered(goneIn(evening));
    }

    private static int nextDraw(int drawn) {
        return (int) ((drawn * 1103L + 12345L) % 1_000_003L);
    }

    // Ahead of any evenings the paper is an empty frame, of which all is NONE.
    public int drawn(int k, int what) {
        if (what == 0 && evening.hasFuse(k)) {
            return bit(evening.damp, k);
        }
        if (what == 1 && isKnot(k)) {
            return evening.match[k];
        }
        return NONE;
    }

    public int image(int k) {
        if (k < 0 || k >= IMAGES) {
            return refused(WRONG);
        }
        Frame kept = images[k];
        if (kept == null) {
            kept = new Frame();
            images[k] = kept;
        }
        kept.become(frame);
        return answered(0);
    }

    public int back(int k) {
        if (k < 0 || k >= IMAGES) {
            return refused(WRONG);
        }
        Frame kept = images[k];
        if (kept == null) {
            return refused(MISSING);
        }
        frame.become(kept);
        log.kept = 0;
        return answered(0);
    }

    public int count(int what) {
        switch (what) {
            case 0: return frame.fuses;
            case 1: return Integer.bitCount(frame.damp);
            case 2: return frame.matches();
            case 3: return frame.letters;
            case 4: return frame.seen;
            case 5: return frame.laws;
            case 6: return log.kept;
            case 7: return tape.length;
            case 8: return refusals[-WRONG - 1];
            case 9: return refusals[-MISSING - 1];
            case 10: return refusals[-IMPOSSIBLE - 1];
            case 11: return refusals[-FULL - 1];
            case 12: return refusals[-UNREADABLE - 1];
            case 13: return frame.force;
            case 14: return frame.term[SECOND];
            case 15: return frame.term[RAIN];
            case 16: return frame.term[MOOD];
            case 17: return goneIn(frame);
            default: return NONE;
        }
    }

    public int status() {
        return status;
    }

    private int answered(int answer) {
        status = 0;
        return answer;
    }

    private int refused(int by) {
        status = by;
        if (by < 0 && by >= UNREADABLE) {
            refusals[-by - 1]++;
        }
        return by;
    }

    private int answeredOrRefused(int answer) {
        return answer < 0 ? refused(answer) : answered(answer);
    }

    private static boolean isKnot(int knot) {
        return knot >= 0 && knot < KNOTS;
    }

    private static boolean areKnots(int knots) {
        return knots >= 0 && knots <= ALL_KNOTS;
    }

    private static boolean isPair(int what) {
        return what == 0 || what == 1;
    }

    private static boolean isSooner(int one, int other) {
        return one != NONE && (other == NONE || one < other);
    }

    private static int bit(int bits, int place) {
        return bits >> place & 1;
    }

    /** All that images keep. */
    private static final class Frame {
        int fuses = 0;
        final int[] from = new int[FUSES];
        final int[] to = new int[FUSES];
        final int[] length = new int[FUSES];
        final int[] kind = new int[FUSES];
        int damp = 0;
        final int[] match = new int[KNOTS];
        int letters = 0;
        final int[] letter = new int[LETTERS];
        int seen = 0;
        final int[] seenKnot = new int[SEEN];
        final int[] seenSeconds = new int[SEEN];
        final int[] term = new int[TERMS];
        int laws = 0;
        final Script[] law = new Script[LAWS];
        int force = NONE;

        Frame() {
            Arrays.fill(match, NONE);
            term[RAIN] = 1;
        }

        void become(Frame other) {
            fuses = other.fuses;
            System.arraycopy(other.from, 0, from, 0, FUSES);
            System.arraycopy(other.to, 0, to, 0, FUSES);
            System.arraycopy(other.length, 0, length, 0, FUSES);
            System.arraycopy(other.kind, 0, kind, 0, FUSES);
            damp = other.damp;
            System.arraycopy(other.match, 0, match, 0, KNOTS);
            letters = other.letters;
            System.arraycopy(other.letter, 0, letter, 0, LETTERS);
            seen = other.seen;
            System.arraycopy(other.seenKnot, 0, seenKnot, 0, SEEN);
            System.arraycopy(other.seenSeconds, 0, seenSeconds, 0, SEEN);
            System.arraycopy(other.term, 0, term, 0, TERMS);
            laws = other.laws;
            for (int i = 0; i < LAWS; i++) {
                law[i] = other.law[i];
            }
            force = other.force;
        }

        static boolean fuseCanBe(int from, int to, int length, int kind) {
            return isKnot(from) && isKnot(to) && from != to
                    && length >= 1 && length <= LONGEST && kind >= 0 && kind < KINDS;
        }

        boolean hasFuse(int fuse) {
            return fuse >= 0 && fuse < fuses;
        }

        int tie(int one, int other, int longIs, int kindIs) {
            if (fuses >= FUSES) {
                return NONE;
            }
            from[fuses] = one;
            to[fuses] = other;
            length[fuses] = longIs;
            kind[fuses] = kindIs;
            fuses++;
            return fuses - 1;
        }

        boolean isTied(int fuse, int knot) {
            return from[fuse] == knot || to[fuse] == knot;
        }

        int otherEnd(int fuse, int knot) {
            return from[fuse] == knot ? to[fuse] : from[fuse];
        }

        int tiedTo(int knot) {
            int tied = 0;
            for (int fuse = 0; fuse < fuses; fuse++) {
                if (isTied(fuse, knot)) {
                    tied++;
                }
            }
            return tied;
        }

        int matches() {
            int lit = 0;
            for (int knot = 0; knot < KNOTS; knot++) {
                if (match[knot] != NONE) {
                    lit++;
                }
            }
            return lit;
        }

        void swapLengths(int one, int other) {
            int longer = length[one];
            length[one] = length[other];
            length[other] = longer;
        }

        Script lawOf(int number) {
            return number < 0 || number >= laws ? null : law[number];
        }

        Script lawInForce() {
            return lawOf(force);
        }

        void happen(int what, int fuse, int knot) {
            if (what == 0) {
                damp ^= 1 << fuse;
            } else if (what == 1 && match[knot] == NONE) {
                match[knot] = term[SECOND];
            }
            term[SECOND]++;
        }
    }

    /** The deeds that can be undone, the latest last. */
    private static final class Log {
        int kept = 0;
        final int[] deed = new int[UNDOABLE];
        final int[] one = new int[UNDOABLE];
        final int[] other = new int[UNDOABLE];

        void keep(int what, int first, int second) {
            if (kept >= UNDOABLE) {
                System.arraycopy(deed, 1, deed, 0, UNDOABLE - 1);
                System.arraycopy(one, 1, one, 0, UNDOABLE - 1);
                System.arraycopy(other, 1, other, 0, UNDOABLE - 1);
                kept = UNDOABLE - 1;
            }
            deed[kept] = what;
            one[kept] = first;
            other[kept] = second;
            kept++;
        }

        void become(Log from) {
            kept = from.kept;
            System.arraycopy(from.deed, 0, deed, 0, UNDOABLE);
            System.arraycopy(from.one, 0, one, 0, UNDOABLE);
            System.arraycopy(from.other, 0, other, 0, UNDOABLE);
        }
    }

    private static final class Tape {
        int length = 0;
        final int[] bytes = new int[TAPE];

        void add(int four) {
            for (int shift = 24; shift >= 0 && length < TAPE; shift -= 8) {
                bytes[length] = four >> shift & 255;
                length++;
            }
        }
    }

    /** A text that was read: its clauses, and the code by which their sums and tests are asked. */
    private static final class Script {
        int clauses = 0;
        int size = 0;
        boolean asksGone = false;
        final int[] verb;
        final int[] times;
        final int[] one;
        final int[] other;
        final int[] test;
        final int[] code;

        Script(int mostClauses, int mostCode) {
            int rows = Math.max(0, mostClauses);
            verb = new int[rows];
            times = new int[rows];
            one = new int[rows];
            other = new int[rows];
            test = new int[rows];
            code = new int[Math.max(0, mostCode)];
        }

        void clear() {
            clauses = 0;
            size = 0;
            asksGone = false;
        }

        void open(int what) {
            if (clauses < verb.length) {
                verb[clauses] = what;
                times[clauses] = 1;
                one[clauses] = NONE;
                other[clauses] = NONE;
                test[clauses] = NONE;
            }
        }

        void put(int op, int argument) {
            if (size < code.length) {
                code[size] = op << OP_SHIFT | argument & ARGUMENT;
                size++;
            }
        }

        void aimHere(int at) {
            if (at >= 0 && at < size) {
                code[at] = code[at] & ~ARGUMENT | size & ARGUMENT;
            }
        }

        Script copied() {
            Script copy = new Script(clauses, size);
            copy.clauses = clauses;
            copy.size = size;
            copy.asksGone = asksGone;
            System.arraycopy(verb, 0, copy.verb, 0, clauses);
            System.arraycopy(times, 0, copy.times, 0, clauses);
            System.arraycopy(one, 0, copy.one, 0, clauses);
            System.arraycopy(other, 0, copy.other, 0, clauses);
            System.arraycopy(test, 0, copy.test, 0, clauses);
            System.arraycopy(code, 0, copy.code, 0, size);
            return copy;
        }
    }

    /** Asks sums and tests: a test is 1 if it is so, else 0. */
    private static final class Sums {
        private final int[] stack = new int[STACK];

        int ask(Script script, int at, int[] facts) {
            int depth = 0;
            for (int step = Math.max(0, at); step < script.size; step++) {
                int op = script.code[step] >> OP_SHIFT;
                int argument = script.code[step] & ARGUMENT;
                if (op == OP_STOP) {
                    break;
                }
                if (op == OP_NUMBER || op == OP_FACT) {
                    if (depth >= STACK || argument >= facts.length && op == OP_FACT) {
                        return BROKEN;
                    }
                    stack[depth] = op == OP_NUMBER ? argument : facts[argument];
                    depth++;
                    continue;
                }
                if (depth < 1) {
                    return BROKEN;
                }
                if (op == OP_NOT) {
                    stack[depth - 1] = 1 - stack[depth - 1];
                } else if (op == OP_OR || op == OP_AND) {
                    // What stands behind is leapt over if it can't matter; leaps only go forward.
                    if (stack[depth - 1] == (op == OP_OR ? 1 : 0)) {
                        step = Math.max(step, argument - 1);
                    } else {
                        depth--;
                    }
                } else {
                    int both = depth < 2 ? BROKEN : joined(op, stack[depth - 2], stack[depth - 1]);
                    if (both == BROKEN) {
                        return BROKEN;
                    }
                    depth--;
                    stack[depth - 1] = both;
                }
            }
            return depth == 1 ? stack[0] : BROKEN;
        }

        private static int joined(int op, long one, long other) {
            if (other == 0 && (op == OP_DIVIDED || op == OP_LEFT)) {
                return BROKEN;
            }
            long both;
            switch (op) {
                case OP_PLUS: both = one + other; break;
                case OP_MINUS: both = one - other; break;
                case OP_TIMES: both = one * other; break;
                case OP_DIVIDED: both = one / other; break;
                case OP_LEFT: both = one % other; break;
                case OP_LESS: both = one < other ? 1 : 0; break;
                case OP_MORE: both = one > other ? 1 : 0; break;
                case OP_SAME: both = one == other ? 1 : 0; break;
                default: return BROKEN;
            }
            return both > SUM_LIMIT || both < -SUM_LIMIT ? BROKEN : (int) both;
        }
    }

    /** Reads a text of either language into its script, up to the first token that can't go on. */
    private static final class Reader {
        final Script script = new Script(CLAUSES, TAPE);
        int fault = NONE;
        private final int[] kind = new int[TAPE + 1];
        private final int[] value = new int[TAPE + 1];
        private final int[] place = new int[TAPE + 1];
        private int tokens = 0;
        private int next = 0;
        private int parts = 0;
        private boolean law = false;

        void read(Tape tape, boolean isLaw) {
            law = isLaw;
            fault = NONE;
            parts = 0;
            next = 0;
            script.clear();
            split(tape);
            for (int i = 0; i <= CLAUSES && fault == NONE; i++) {
                if (i == CLAUSES) {
                    fail();
                    return;
                }
                clause();
                if (kind[next] == TEXT_ENDS) {
                    return;
                }
                take(';');
            }
        }

        // ---- tokens

        private void split(Tape tape) {
            tokens = 0;
            int at = 0;
            // Every round goes on by a byte at least.
            for (int round = 0; round < TAPE && at < tape.length; round++) {
                int end = at + 1;
                int first = tape.bytes[at];
                if (isLetter(first)) {
                    end = endOfLetters(tape, at);
                    addToken(IS_WORD, wordAt(tape, at, end), at);
                } else if (isDigit(first)) {
                    end = endOfDigits(tape, at);
                    addToken(IS_NUMBER, numberAt(tape, at, end), at);
                } else if (first != ' ') {
                    addToken(IS_SIGN, first, at);
                }
                at = end;
            }
            addToken(TEXT_ENDS, 0, tape.length);
        }

        private void addToken(int what, int worth, int at) {
            if (tokens <= TAPE) {
                kind[tokens] = what;
                value[tokens] = worth;
                place[tokens] = at;
                tokens++;
            }
        }

        private static boolean isLetter(int sign) {
            return sign >= 'a' && sign <= 'z';
        }

        private static boolean isDigit(int sign) {
            return sign >= '0' && sign <= '9';
        }

        private static int endOfLetters(Tape tape, int at) {
            int end = at;
            while (end < tape.length && isLetter(tape.bytes[end])) {
                end++;
            }
            return end;
        }

        private static int endOfDigits(Tape tape, int at) {
            int end = at;
            while (end < tape.length && isDigit(tape.bytes[end])) {
                end++;
            }
            return end;
        }

        private static int numberAt(Tape tape, int at, int end) {
            int number = 0;
            for (int i = at; i < end; i++) {
                number = Math.min(LARGEST_NUMBER + 1, number * 10 + tape.bytes[i] - '0');
            }
            return number;
        }

        private static int wordAt(Tape tape, int at, int end) {
            for (int word = 0; word < WORDS; word++) {
                if (isSpelled(tape, at, end, spelled(word))) {
                    return word;
                }
            }
            return NONE;
        }

        private static boolean isSpelled(Tape tape, int at, int end, String text) {
            if (text.length() != end - at) {
                return false;
            }
            for (int i = 0; i < text.length(); i++) {
                if (text.charAt(i) != tape.bytes[at + i]) {
                    return false;
                }
            }
            return true;
        }

        private static String spelled(int word) {
            switch (word) {
                case W_BURNS: return "burns";
                case W_HOLDS: return "holds";
                case W_BARS: return "bars";
                case W_LIGHT: return "light";
                case W_SOAK: return "soak";
                case W_SWAP: return "swap";
                case W_PASS: return "pass";
                case W_IF: return "if";
                case W_TIMES: return "times";
                case W_WITH: return "with";
                case W_OR: return "or";
                case W_AND: return "and";
                case W_NOT: return "not";
                case W_FUSE: return "fuse";
                case W_KIND: return "kind";
                case W_FROM: return "from";
                case W_TO: return "to";
                case W_KNOT: return "knot";
                case W_ENDS: return "ends";
                case W_MOOD: return "mood";
                case W_LONG: return "long";
                case W_SECOND: return "second";
                case W_DONE: return "done";
                case W_LATEST: return "latest";
                case W_GONE: return "gone";
                case W_DAMP: return "damp";
                case W_LIT: return "lit";
                default: return "";
            }
        }

        private void fail() {
            if (fault == NONE) {
                fault = place[next];
            }
        }

        private void goOn() {
            if (next < tokens - 1) {
                next++;
            }
        }

        private boolean isWord(int word) {
            return kind[next] == IS_WORD && value[next] == word;
        }

        private boolean isSign(char sign) {
            return kind[next] == IS_SIGN && value[next] == sign;
        }

        private void take(char sign) {
            if (isSign(sign)) {
                goOn();
            } else {
                fail();
            }
        }

        // ---- clauses

        private void clause() {
            int verb = kind[next] == IS_WORD ? value[next] : NONE;
            if (law ? verb < W_BURNS || verb > W_BARS : verb < W_LIGHT || verb > W_PASS) {
                fail();
                return;
            }
            goOn();
            script.open(verb);
            if (verb != W_BARS && verb != W_PASS) {
                script.one[script.clauses] = wholeSum();
            }
            if (verb == W_SWAP) {
                if (!isWord(W_WITH)) {
                    fail();
                }
                goOn();
                script.other[script.clauses] = wholeSum();
            }
            if (!law && isWord(W_TIMES)) {
                goOn();
                script.times[script.clauses] = smallNumber(1, MOST_TIMES);
            }
            if (isWord(W_IF)) {
                goOn();
                script.test[script.clauses] = script.size;
                test(0);
                script.put(OP_STOP, 0);
            }
            script.clauses++;
        }

        private int wholeSum() {
            int start = script.size;
            sum(0);
            script.put(OP_STOP, 0);
            return start;
        }

        private int smallNumber(int least, int most) {
            int number = value[next];
            if (kind[next] != IS_NUMBER || number < least || number > most) {
                fail();
                return least;
            }
            goOn();
            return number;
        }

        // ---- tests and sums; depth is how many brackets are open around them

        private void test(int depth) {
            both(depth);
            for (int i = 0; i < TAPE && fault == NONE && isWord(W_OR); i++) {
                goOn();
                int leap = script.size;
                script.put(OP_OR, 0);
                both(depth);
                script.aimHere(leap);
            }
        }

        private void both(int depth) {
            plain(depth);
            for (int i = 0; i < TAPE && fault == NONE && isWord(W_AND); i++) {
                goOn();
                int leap = script.size;
                script.put(OP_AND, 0);
                plain(depth);
                script.aimHere(leap);
            }
        }

        // A row of "not" is counted, not descended into: brackets alone make the reading deeper.
        private void plain(int depth) {
            boolean not = false;
            for (int i = 0; i < TAPE && isWord(W_NOT); i++) {
                not = !not;
                goOn();
            }
            if (isSign('(')) {
                if (opened(depth)) {
                    test(depth + 1);
                    take(')');
                }
            } else {
                sum(depth);
                int op = isSign('<') ? OP_LESS : isSign('>') ? OP_MORE : OP_SAME;
                if (op == OP_SAME) {
                    take('=');
                } else {
                    goOn();
                }
                if (fault == NONE) {
                    sum(depth);
                    script.put(op, 0);
                }
            }
            if (not) {
                script.put(OP_NOT, 0);
            }
        }

        private boolean opened(int depth) {
            if (depth >= BRACKETS) {
                fail();
                return false;
            }
            goOn();
            return true;
        }

        private void sum(int depth) {
            term(depth);
            for (int i = 0; i < TAPE && fault == NONE && (isSign('+') || isSign('-')); i++) {
                int op = isSign('+') ? OP_PLUS : OP_MINUS;
                goOn();
                term(depth);
                script.put(op, 0);
            }
        }

        private void term(int depth) {
            part(depth);
            for (int i = 0; i < TAPE && fault == NONE
                    && (isSign('*') || isSign('/') || isSign('%')); i++) {
                int op = isSign('*') ? OP_TIMES : isSign('/') ? OP_DIVIDED : OP_LEFT;
                goOn();
                part(depth);
                script.put(op, 0);
            }
        }

        private void part(int depth) {
            if (isSign('[')) {
                if (opened(depth)) {
                    sum(depth + 1);
                    take(']');
                }
            } else if (parts >= PARTS) {
                fail();
            } else if (kind[next] == IS_NUMBER) {
                parts++;
                script.put(OP_NUMBER, smallNumber(0, LARGEST_NUMBER));
            } else {
                parts++;
                wordPart();
            }
        }

        private void wordPart() {
            int word = kind[next] == IS_WORD ? value[next] : NONE;
            if (law ? word < W_FUSE || word > W_SECOND : word < W_LONG || word > W_LIT) {
                fail();
                return;
            }
            goOn();
            if (!law && word == W_LIT) {
                script.put(OP_FACT, LIT_FACTS + smallNumber(0, KNOTS - 1));
            } else if (!law && word == W_LONG) {
                script.put(OP_FACT, LONG_FACTS + smallNumber(0, FUSES - 1));
            } else {
                script.put(OP_FACT, word - W_FUSE);
            }
            if (word == W_GONE || word == W_LATEST) {
                script.asksGone = true;
            }
        }
    }

    /** How fuses burn by a law, and when fire comes where by matches. */
    private static final class Fire {
        final int[] burns = new int[FUSES];
        final int[] holds = new int[KNOTS];
        int catching = 0;
        final int[] comes = new int[KNOTS];
        private final int[] facts = new int[FACTS];
        private final int[] alike = new int[KNOTS];
        private final Sums sums = new Sums();

        // ---- by a law (null: none)

        void measure(Frame frame, Script law) {
            facts[W_SECOND - W_FUSE] = frame.term[SECOND];
            facts[W_MOOD - W_FUSE] = frame.term[MOOD];
            for (int fuse = 0; fuse < frame.fuses; fuse++) {
                measureFuse(frame, law, fuse);
            }
            for (int knot = 0; knot < KNOTS; knot++) {
                measureKnot(frame, law, knot);
            }
        }

        // Behind measure() this is enough for a fuse whose length alone has become another one.
        void measureFuse(Frame frame, Script law, int fuse) {
            facts[W_KNOT - W_FUSE] = NONE;
            facts[W_ENDS - W_FUSE] = NONE;
            facts[W_FUSE - W_FUSE] = fuse;
            facts[W_KIND - W_FUSE] = frame.kind[fuse];
            facts[W_LONG - W_FUSE] = frame.length[fuse];
            facts[W_FROM - W_FUSE] = frame.from[fuse];
            facts[W_TO - W_FUSE] = frame.to[fuse];
            burns[fuse] = frame.length[fuse];
            boolean barred = false;
            int clauses = law == null ? 0 : law.clauses;
            for (int clause = 0; clause < clauses; clause++) {
                int verb = law.verb[clause];
                int told = verb == W_HOLDS ? BROKEN : told(law, clause);
                if (told == BROKEN) {
                    continue;
                }
                if (verb == W_BARS) {
                    barred = true;
                } else {
                    burns[fuse] = Math.max(1, Math.min(MOST_BURN, told));
                }
            }
            if (barred || bit(frame.damp, fuse) == 1) {
                catching &= ~(1 << fuse);
            } else {
                catching |= 1 << fuse;
            }
        }

        private void measureKnot(Frame frame, Script law, int knot) {
            facts[W_FUSE - W_FUSE] = NONE;
            facts[W_KIND - W_FUSE] = NONE;
            facts[W_LONG - W_FUSE] = NONE;
            facts[W_FROM - W_FUSE] = NONE;
            facts[W_TO - W_FUSE] = NONE;
            facts[W_KNOT - W_FUSE] = knot;
            facts[W_ENDS - W_FUSE] = frame.tiedTo(knot);
            holds[knot] = 0;
            int clauses = law == null ? 0 : law.clauses;
            for (int clause = 0; clause < clauses; clause++) {
                int told = law.verb[clause] != W_HOLDS ? BROKEN : told(law, clause);
                if (told != BROKEN) {
                    holds[knot] = Math.max(0, Math.min(MOST_HOLD, told));
                }
            }
        }

        // What a clause tells if it holds; "bars" has no sum and tells just that it does.
        private int told(Script law, int clause) {
            if (law.test[clause] != NONE) {
                int so = sums.ask(law, law.test[clause], facts);
                if (so == BROKEN || so == 0) {
                    return BROKEN;
                }
            }
            return law.one[clause] == NONE ? 0 : sums.ask(law, law.one[clause], facts);
        }

        // ---- by matches

        void spreadFromMatches(Frame frame) {
            System.arraycopy(frame.match, 0, comes, 0, KNOTS);
            spread(frame);
        }

        void spreadFrom(Frame frame, int knots) {
            for (int knot = 0; knot < KNOTS; knot++) {
                comes[knot] = bit(knots, knot) == 1 ? 0 : NONE;
            }
            spread(frame);
        }

        int fromTo(Frame frame, int from, int to) {
            spreadFrom(frame, 1 << from);
            return comes[to];
        }

        private void spread(Frame frame) {
            boolean moved = true;
            for (int round = 0; round < KNOTS && moved; round++) {
                moved = false;
                for (int fuse = 0; fuse < frame.fuses; fuse++) {
                    if (bit(catching, fuse) == 1) {
                        boolean there = carried(frame.from[fuse], frame.to[fuse], burns[fuse]);
                        boolean here = carried(frame.to[fuse], frame.from[fuse], burns[fuse]);
                        moved = moved || there || here;
                    }
                }
            }
        }

        private boolean carried(int one, int other, int burn) {
            if (comes[one] == NONE) {
                return false;
            }
            int then = comes[one] + holds[one] + burn;
            if (!isSooner(then, comes[other])) {
                return false;
            }
            comes[other] = then;
            return true;
        }

        // ---- what has come of it

        int outOf(Frame frame, int fuse) {
            int one = frame.from[fuse];
            int other = frame.to[fuse];
            // Fire at one end of a fuse that catches comes to the other one, too.
            if (bit(catching, fuse) == 0 || comes[one] == NONE || comes[other] == NONE) {
                return NONE;
            }
            int here = comes[one] + holds[one];
            int there = comes[other] + holds[other];
            return Math.min(2 * (Math.min(here, there) + burns[fuse]), here + there + burns[fuse]);
        }

        int lastOut(Frame frame, int fuses) {
            int last = 0;
            for (int fuse = 0; fuse < frame.fuses; fuse++) {
                if (bit(fuses, fuse) == 1) {
                    int out = outOf(frame, fuse);
                    if (out == NONE) {
                        return NONE;
                    }
                    last = Math.max(last, out);
                }
            }
            return last;
        }

        int gone(Frame frame) {
            int many = 0;
            for (int fuse = 0; fuse < frame.fuses; fuse++) {
                int out = outOf(frame, fuse);
                if (out != NONE && out <= 2 * frame.term[SECOND]) {
                    many++;
                }
            }
            return many;
        }

        int comesEverywhere() {
            int last = 0;
            for (int knot = 0; knot < KNOTS; knot++) {
                if (comes[knot] == NONE) {
                    return NONE;
                }
                last = Math.max(last, comes[knot]);
            }
            return last;
        }

        int between(Frame frame, int side) {
            int fuses = 0;
            for (int fuse = 0; fuse < frame.fuses; fuse++) {
                if (bit(side, frame.from[fuse]) != bit(side, frame.to[fuse])) {
                    fuses |= 1 << fuse;
                }
            }
            return fuses & catching;
        }

        int spans(Frame frame, int h) {
            int twos = 0;
            for (int one = 0; one < frame.fuses; one++) {
                int out = outOf(frame, one);
                if (out == NONE) {
                    continue;
                }
                if (out == h) {
                    twos++;
                }
                for (int other = one + 1; other < frame.fuses; other++) {
                    int then = outOf(frame, other);
                    if (then != NONE && Math.abs(out - then) == h) {
                        twos++;
                    }
                }
            }
            return twos;
        }

        boolean isAsSeen(Frame frame) {
            for (int i = 0; i < frame.seen; i++) {
                if (comes[frame.seenKnot[i]] != frame.seenSeconds[i]) {
                    return false;
                }
            }
            return true;
        }

        int mostAlike(Frame frame, int knots, int to) {
            for (int knot = 0; knot < KNOTS; knot++) {
                alike[knot] = fromTo(frame, knot, to);
            }
            int most = 0;
            for (int one = 0; one < KNOTS; one++) {
                int many = 0;
                for (int other = 0; other < KNOTS; other++) {
                    if (bit(knots, one) == 1 && bit(knots, other) == 1
                            && alike[one] == alike[other]) {
                        many++;
                    }
                }
                most = Math.max(most, many);
            }
            return most;
        }
    }
}
