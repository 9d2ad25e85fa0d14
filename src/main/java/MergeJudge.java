/** Which rules survive a merge: see ../shared/DOC.md, whose words in capitals are used here. */
public final class MergeJudge {
    public static final int NONE = -1;

    private static final int NO_SUCH = -2;
    private static final int BELOW = -3;
    private static final int FAULTY = -4;
    private static final int NOT_NOW = -5;
    private static final int NOTHING = -6;
    private static final int BEYOND = -7;
    private static final int UNLIKE = -8;
    private static final int NO_NUMBER = -1000000;

    private static final int MOST_BYTES = 400;
    private static final int MOST_TOP = 3;
    private static final int MOST_ODDS = 10;
    private static final int MOST_CELLS = 3;
    private static final int MOST_RULES = 5;
    private static final int MOST_OPS = 5;
    private static final int MOST_STATES = 64;
    private static final int MOST_ACTS = 20;
    private static final int MOST_NUMBERS = 60;
    private static final int MOST_SEED = 2000000000;
    private static final int MOST_AUDITS = 20;
    private static final int DEEPEST = 3;
    private static final int KINDS = 4;
    private static final int LAWS = 4;
    private static final int SLOTS = 4;
    private static final int WIDTHS = 4;
    private static final int IMAGES = 3;
    private static final int RULE_ROW = 5;
    private static final int OP_ROW = 4;
    /** Two bits of the base, of the first and of the second side: the places of a CELL's merge table. */
    private static final int CELL_BITS = 6;
    private static final int CELL_PLACES = 64;

    private final Tape tape;
    private final Base draft;
    private final Base told;
    private final Reader reader;
    private final Space space;
    private final Judge judge;
    private final Chances chances;
    private final Base[] images;
    private final boolean[] kept;
    private final Slot[] slots;

    public MergeJudge() {
        tape = new Tape();
        draft = new Base();
        told = new Base();
        reader = new Reader(tape, draft);
        space = new Space();
        judge = new Judge(told, space);
        chances = new Chances(told, judge);
        images = new Base[IMAGES];
        kept = new boolean[IMAGES];
        for (int k = 0; k < IMAGES; k++) {
            images[k] = new Base();
        }
        slots = new Slot[SLOTS];
        for (int slot = 0; slot < SLOTS; slot++) {
            slots[slot] = new Slot();
        }
    }

    // ---- the text

    public int feed(int a, int b, int c, int d, int e) {
        if (tape.size + 20 > MOST_BYTES) {
            return NONE;
        }
        tape.put(a);
        tape.put(b);
        tape.put(c);
        tape.put(d);
        tape.put(e);
        return tape.size;
    }

    public int end(int n) {
        if (n < 0 || n > tape.size) {
            return NONE;
        }
        tape.size = n;
        return n;
    }

    public int base() {
        boolean good = reader.readTape();
        tape.size = 0;
        if (!good) {
            return FAULTY;
        }
        become(draft);
        return told.lines;
    }

    public int fault(int what) {
        switch (what) {
            case 0:
                return reader.faultKind;
            case 1:
                return reader.faultPlace;
            default:
                return NONE;
        }
    }

    // ---- what is told

    public int cell(int cell) {
        return noCell(cell) ? NO_SUCH : told.kinds[cell];
    }

    public int rule(int rule, int what) {
        if (noRule(rule) || what < 0 || what >= RULE_ROW) {
            return NO_SUCH;
        }
        return told.ruleRows[rule * RULE_ROW + what];
    }

    public int op(int op, int what) {
        if (noOp(op) || what < 0 || what >= OP_ROW) {
            return NO_SUCH;
        }
        return told.opRows[op * OP_ROW + what];
    }

    public int states() {
        return isTold() ? space.size : NO_SUCH;
    }

    public int value(int state, int cell) {
        if (noState(state) || noCell(cell)) {
            return NO_SUCH;
        }
        return space.digit(state, cell);
    }

    public int holds(int rule, int state) {
        if (noRule(rule) || noState(state)) {
            return NO_SUCH;
        }
        return space.keeps(rule, state) ? 1 : 0;
    }

    public int dropped() {
        return isTold() ? told.droppedRules : NO_SUCH;
    }

    public int locked() {
        return isTold() ? told.lockedOps : NO_SUCH;
    }

    // ---- states

    public int valid(int state) {
        if (noState(state)) {
            return NO_SUCH;
        }
        return judge.isValid(state) ? 1 : 0;
    }

    public int valids() {
        return isTold() ? Long.bitCount(judge.validStates) : NO_SUCH;
    }

    public int breaks(int state) {
        return noState(state) ? NO_SUCH : judge.firstBroken(state);
    }

    public int weight(int state) {
        if (noState(state)) {
            return NO_SUCH;
        }
        int sum = 0;
        for (int cell = 0; cell < told.cells; cell++) {
            sum += space.digit(state, cell);
        }
        return sum;
    }

    public int nearest(int state) {
        if (noState(state)) {
            return NO_SUCH;
        }
        int best = NONE;
        int fewestCells = MOST_CELLS + 1;
        for (int other = 0; other < space.size; other++) {
            int cells = space.cellsApart(state, other);
            if (judge.isValid(other) && cells < fewestCells) {
                fewestCells = cells;
                best = other;
            }
        }
        return best;
    }

    public int hard() {
        if (!isTold()) {
            return NO_SUCH;
        }
        int best = NONE;
        int fewestKept = MOST_STATES + 1;
        for (int rule = 0; rule < told.rules; rule++) {
            int keepers = Long.bitCount(space.holding[rule]);
            if (keepers < fewestKept) {
                fewestKept = keepers;
                best = rule;
            }
        }
        return best;
    }

    public int spare(int rule) {
        if (noRule(rule)) {
            return NO_SUCH;
        }
        return judge.validsWith(told.droppedRules | 1 << rule) == Long.bitCount(judge.validStates) ? 1 : 0;
    }

    public int room(int cell) {
        if (noCell(cell)) {
            return NO_SUCH;
        }
        int values = 0;
        for (int state = 0; state < space.size; state++) {
            if (judge.isValid(state)) {
                values |= 1 << space.digit(state, cell);
            }
        }
        return values;
    }

    // ---- operations

    public int does(int op, int state) {
        return noOp(op) || noState(state) ? NO_SUCH : judge.outcome(op, state);
    }

    public int works(int op) {
        return noOp(op) ? NO_SUCH : judge.worksFrom(op);
    }

    public int commute(int op, int other) {
        if (noOp(op) || noOp(other)) {
            return NO_SUCH;
        }
        return judge.commuting(op, other) ? 1 : 0;
    }

    public int table() {
        if (!isTold()) {
            return NO_SUCH;
        }
        int found = 0;
        for (int op = 0; op < told.ops; op++) {
            for (int other = op + 1; other < told.ops; other++) {
                if (judge.commuting(op, other)) {
                    found++;
                }
            }
        }
        return found;
    }

    public int opens(int state) {
        return noState(state) ? NO_SUCH : judge.openOps(state);
    }

    public int dead() {
        if (!isTold()) {
            return NO_SUCH;
        }
        int found = 0;
        for (int state = 0; state < space.size; state++) {
            if (judge.isValid(state) && judge.openOps(state) == 0) {
                found++;
            }
        }
        return found;
    }

    // ---- merges

    public int merge(int base, int first, int second) {
        if (noState(base) || noState(first) || noState(second)) {
            return NO_SUCH;
        }
        return judge.merged(base, first, second);
    }

    public int even(int base, int first, int second) {
        if (noState(base) || noState(first) || noState(second)) {
            return NO_SUCH;
        }
        return judge.merged(base, first, second) == judge.merged(base, second, first) ? 1 : 0;
    }

    public int clashes(int op, int other) {
        return noOp(op) || noOp(other) ? NO_SUCH : judge.clashesOf(op, other);
    }

    // ---- what is REACHED

    public int reach(int base, int d) {
        if (noState(base) || noDepth(d)) {
            return NO_SUCH;
        }
        return judge.isValid(base) ? Long.bitCount(judge.spread(base, d, 0)) : NONE;
    }

    public int far(int base, int state) {
        return noState(base) || noState(state) ? NO_SUCH : judge.distance(base, state);
    }

    public int step(int base, int state) {
        return noState(base) || noState(state) ? NO_SUCH : judge.firstStep(base, state);
    }

    public int freely(int base, int d) {
        if (noState(base) || noDepth(d)) {
            return NO_SUCH;
        }
        return judge.isValid(base) ? Long.bitCount(judge.spread(base, d, told.lockedOps)) : NONE;
    }

    public int asked(int base, int d) {
        if (noState(base) || noDepth(d)) {
            return NO_SUCH;
        }
        if (!judge.isValid(base)) {
            return 0;
        }
        long lockedOnly = judge.spread(base, d, 0) & ~judge.spread(base, d, told.lockedOps);
        int sides = Long.bitCount(lockedOnly);
        return sides * (sides + 1) / 2;
    }

    // ---- BREAKS

    public int bad(int base, int d) {
        return noState(base) || noDepth(d) ? NO_SUCH : judge.breaksFrom(base, d);
    }

    public int all(int d) {
        return noDepth(d) ? NO_SUCH : judge.total(d);
    }

    public int pairs(int d) {
        return noDepth(d) ? NO_SUCH : judge.unlikePairs(d);
    }

    public int safe(int d) {
        if (noDepth(d)) {
            return NO_SUCH;
        }
        return judge.isSafe(d) ? 1 : 0;
    }

    public int bound() {
        if (!isTold()) {
            return NO_SUCH;
        }
        for (int d = DEEPEST; d >= 0; d--) {
            if (judge.isSafe(d)) {
                return d;
            }
        }
        return NONE;
    }

    public int least(int d, int what) {
        if (noDepth(d) || what < 0 || what > 4) {
            return NO_SUCH;
        }
        return judge.findSmallest(d) ? judge.smallest[what] : NONE;
    }

    public int culprit(int d) {
        if (noDepth(d)) {
            return NO_SUCH;
        }
        return judge.findSmallest(d) ? judge.firstBroken(judge.smallest[3]) : NONE;
    }

    public int hits(int rule, int d) {
        if (noRule(rule) || noDepth(d)) {
            return NO_SUCH;
        }
        judge.countHits(d);
        return judge.hitsOf[rule];
    }

    public int worst(int d) {
        if (noDepth(d)) {
            return NO_SUCH;
        }
        judge.countHits(d);
        int best = NONE;
        int most = 0;
        for (int rule = 0; rule < told.rules; rule++) {
            if (judge.hitsOf[rule] > most) {
                most = judge.hitsOf[rule];
                best = rule;
            }
        }
        return best;
    }

    public int bare(int d) {
        if (noDepth(d)) {
            return NO_SUCH;
        }
        int found = 0;
        for (int base = 0; base < space.size; base++) {
            if (judge.breaksFrom(base, d) > 0) {
                found++;
            }
        }
        return found;
    }

    public int calm(int base) {
        if (noState(base)) {
            return NO_SUCH;
        }
        for (int d = DEEPEST; d >= 0; d--) {
            if (judge.isValid(base) && judge.breaksFrom(base, d) == 0) {
                return d;
            }
        }
        return NONE;
    }

    public int hot(int d) {
        if (noDepth(d)) {
            return NO_SUCH;
        }
        int best = NONE;
        int most = 0;
        for (int base = 0; base < space.size; base++) {
            int found = judge.breaksFrom(base, d);
            if (found > most) {
                most = found;
                best = base;
            }
        }
        return best;
    }

    // ---- RULES by themselves, LOCKS, cures

    public int known(int rule) {
        if (noRule(rule)) {
            return NO_SUCH;
        }
        int kind = told.ruleRows[rule * RULE_ROW];
        int cell = told.ruleRows[rule * RULE_ROW + 1];
        boolean ofOneCell = kind == 0 || kind == 1;
        return ofOneCell && !noCell(cell) && told.kinds[cell] != 2 ? 1 : 0;
    }

    public int alone(int rule, int d) {
        if (noRule(rule) || noDepth(d)) {
            return NO_SUCH;
        }
        return judge.isSafeAlone(rule, d) ? 1 : 0;
    }

    public int fine(int d) {
        if (noDepth(d)) {
            return NO_SUCH;
        }
        int rules = 0;
        for (int rule = 0; rule < told.rules; rule++) {
            if (judge.isSafeAlone(rule, d)) {
                rules |= 1 << rule;
            }
        }
        return rules;
    }

    public int fewest(int d) {
        if (noDepth(d)) {
            return NO_SUCH;
        }
        int set = judge.leastLocks(d);
        return set == NONE ? NONE : Integer.bitCount(set);
    }

    public int locks(int d) {
        return noDepth(d) ? NO_SUCH : judge.leastLocks(d);
    }

    public int needed(int d) {
        return noDepth(d) ? NO_SUCH : judge.commonLocks(d);
    }

    public int blame() {
        if (!isTold()) {
            return NO_SUCH;
        }
        int best = NONE;
        int fewestBreaks = judge.total(1);
        for (int rule = 0; rule < told.rules; rule++) {
            int left = judge.totalWith(told.droppedRules | 1 << rule, told.lockedOps);
            if (left < fewestBreaks) {
                fewestBreaks = left;
                best = rule;
            }
        }
        return best;
    }

    public int cure() {
        if (!isTold()) {
            return NO_SUCH;
        }
        int best = NONE;
        int fewestBreaks = judge.total(1);
        for (int cell = 0; cell < told.cells; cell++) {
            for (int kind = 0; kind < KINDS; kind++) {
                int left = judge.totalOf(cell, kind);
                if (left < fewestBreaks) {
                    fewestBreaks = left;
                    best = 10 * cell + kind;
                }
            }
        }
        return best;
    }

    // ---- SEEN, LAWS

    public int fits(int slot) {
        int refusal = refusalOfRow(slot);
        return refusal != 0 ? refusal : Long.bitCount(judge.fitting(slots[slot], told.law));
    }

    public int which(int slot) {
        int refusal = refusalOfRow(slot);
        if (refusal != 0) {
            return refusal;
        }
        long bases = judge.fitting(slots[slot], told.law);
        for (int base = 0; base < space.size; base++) {
            if ((bases >>> base & 1) != 0) {
                return base;
            }
        }
        return NONE;
    }

    public int laws(int slot) {
        int refusal = refusalOfRow(slot);
        if (refusal != 0) {
            return refusal;
        }
        int found = 0;
        for (int law = 0; law < LAWS; law++) {
            if (judge.fitting(slots[slot], law) != 0) {
                found |= 1 << law;
            }
        }
        return found;
    }

    public int by(int law) {
        return !isTold() || law < 0 || law >= LAWS ? NO_SUCH : judge.totalBy(law);
    }

    public int law() {
        if (!isTold()) {
            return NO_SUCH;
        }
        int best = 0;
        int fewestBreaks = judge.totalBy(0);
        for (int law = 1; law < LAWS; law++) {
            int found = judge.totalBy(law);
            if (found < fewestBreaks) {
                fewestBreaks = found;
                best = law;
            }
        }
        return best;
    }

    // ---- SHARES, the GAME, CHANCE, AUDITS

    public int worth(int set) {
        if (!isTold() || set < 0 || set >= 1 << told.rules) {
            return NO_SUCH;
        }
        return judge.totalWith(chances.othersDropped(set), told.lockedOps);
    }

    public int share(int rule, int what) {
        if (noRule(rule) || what < 0 || what > 1) {
            return NO_NUMBER;
        }
        return (int) chances.shareOf(rule, what);
    }

    public int rests(int op, int other) {
        return noGame(op, other) ? NO_SUCH : chances.restsOf(op, other);
    }

    public int gets(int op, int other, int x, int y) {
        if (noGame(op, other) || x < 0 || x > 1 || y < 0 || y > 1) {
            return NO_NUMBER;
        }
        return chances.gain(op, x, other, y);
    }

    public long chance(int what) {
        return !isTold() || what < 0 || what > 1 ? NO_SUCH : chances.safety(what);
    }

    public long mean(int what) {
        return !isTold() || what < 0 || what > 1 ? NO_SUCH : chances.meanOfValids(what);
    }

    public int drawn(int seed, int what) {
        if (!isTold() || seed < 0 || seed > MOST_SEED || what < 0 || what > 1) {
            return NO_SUCH;
        }
        int audit = chances.draw(seed);
        return what == 0 ? audit : judge.totalWith(told.droppedRules | audit, told.lockedOps);
    }

    public int luck(int seed, int n) {
        if (!isTold() || seed < 0 || seed > MOST_SEED || n < 1 || n > MOST_AUDITS) {
            return NO_SUCH;
        }
        int found = 0;
        for (int i = 0; i < n; i++) {
            if (judge.isSafeWith(told.droppedRules | chances.draw((long) seed + i), 1)) {
                found++;
            }
        }
        return found;
    }

    // ---- acts

    public int lock(int op) {
        return noOp(op) ? NO_SUCH : act(told.droppedRules, told.lockedOps | 1 << op);
    }

    public int frees(int op) {
        if (noOp(op)) {
            return NO_SUCH;
        }
        boolean isLocked = (told.lockedOps >> op & 1) != 0;
        if (!isLocked && told.acts < MOST_ACTS) {
            return judge.total(1);
        }
        return act(told.droppedRules, told.lockedOps & ~(1 << op));
    }

    public int drops(int rule) {
        return noRule(rule) ? NO_SUCH : act(told.droppedRules | 1 << rule, told.lockedOps);
    }

    public int undo() {
        if (!isTold()) {
            return NO_SUCH;
        }
        if (told.acts == 0) {
            return NOT_NOW;
        }
        told.takeBackTo(told.acts - 1);
        judge.asTold();
        return told.acts;
    }

    public int anew() {
        if (!isTold()) {
            return NO_SUCH;
        }
        int done = told.acts;
        told.takeBackTo(0);
        judge.asTold();
        return done;
    }

    public int rate(int cell, int kind) {
        if (noCell(cell) || kind < 0 || kind >= KINDS) {
            return NO_SUCH;
        }
        if (told.acts > 0) {
            return NOT_NOW;
        }
        int former = told.kinds[cell];
        told.kinds[cell] = kind;
        judge.asTold();
        return former;
    }

    public int count(int what) {
        switch (what) {
            case 0:
                return told.top;
            case 1:
                return told.law;
            case 2:
                return told.odds;
            case 3:
                return told.cells;
            case 4:
                return told.rules;
            case 5:
                return told.ops;
            case 6:
                return told.acts;
            case 7:
                return told.lines;
            case 8:
                return tape.size;
            case 9:
                return slotsInUse();
            default:
                return NONE;
        }
    }

    // ---- IMAGES, SLOTS

    public int image(int k) {
        if (k < 0 || k >= IMAGES) {
            return NO_SUCH;
        }
        images[k].copyOf(told);
        kept[k] = true;
        return 0;
    }

    public int back(int k) {
        if (k < 0 || k >= IMAGES) {
            return NO_SUCH;
        }
        if (!kept[k]) {
            return NOTHING;
        }
        become(images[k]);
        return 0;
    }

    public int row(int slot, int width, int n) {
        if (noSlot(slot) || width < 0 || width >= WIDTHS || n > MOST_NUMBERS) {
            return NO_SUCH;
        }
        if (n < 0) {
            return BELOW;
        }
        slots[slot].renew(width, n);
        return 0;
    }

    public int write(int slot, int i, long v) {
        if (noSlot(slot)) {
            return NO_SUCH;
        }
        Slot row = slots[slot];
        if (!row.there) {
            return NOTHING;
        }
        if (i < 0 || i >= row.size) {
            return BEYOND;
        }
        row.numbers[i] = row.cut(v);
        return 0;
    }

    public int paste(int slot, int i, int to, int k, int n) {
        if (noSlot(slot) || noSlot(to)) {
            return NO_SUCH;
        }
        Slot from = slots[slot];
        Slot into = slots[to];
        if (!from.there || !into.there) {
            return NOTHING;
        }
        if (from.width != into.width) {
            return UNLIKE;
        }
        if (!from.spans(i, n) || !into.spans(k, n)) {
            return BEYOND;
        }
        System.arraycopy(from.numbers, i, into.numbers, k, n);
        return 0;
    }

    // ---- what the calls share

    private boolean isTold() {
        return told.lines > 0;
    }

    // Without a BASE all its counts are 0: then there is no such cell, rule, op or state.

    private boolean noCell(int cell) {
        return cell < 0 || cell >= told.cells;
    }

    private boolean noRule(int rule) {
        return rule < 0 || rule >= told.rules;
    }

    private boolean noOp(int op) {
        return op < 0 || op >= told.ops;
    }

    private boolean noState(int state) {
        return state < 0 || state >= space.size;
    }

    private boolean noDepth(int d) {
        return !isTold() || d < 0 || d > DEEPEST;
    }

    private boolean noGame(int op, int other) {
        return noOp(op) || noOp(other) || op == other;
    }

    private boolean noSlot(int slot) {
        return slot < 0 || slot >= SLOTS;
    }

    private void become(Base other) {
        told.copyOf(other);
        space.load(told);
        judge.asTold();
    }

    private int act(int droppedRules, int lockedOps) {
        if (told.acts >= MOST_ACTS) {
            return NOT_NOW;
        }
        told.act(droppedRules, lockedOps);
        judge.asTold();
        return judge.total(1);
    }

    private int slotsInUse() {
        int found = 0;
        for (int slot = 0; slot < SLOTS; slot++) {
            if (slots[slot].there) {
                found++;
            }
        }
        return found;
    }

    /** Why a SLOT's row tells nothing SEEN; 0: it does. */
    private int refusalOfRow(int slot) {
        if (!isTold() || noSlot(slot)) {
            return NO_SUCH;
        }
        Slot row = slots[slot];
        if (!row.there) {
            return NOTHING;
        }
        if (row.size % 3 != 0) {
            return NO_SUCH;
        }
        for (int i = 0; i < row.size; i++) {
            if (row.numbers[i] < 0 || row.numbers[i] >= space.size) {
                return NO_SUCH;
            }
        }
        return 0;
    }

    /** The bytes that came and are not read yet. */
    private static final class Tape {
        final byte[] bytes = new byte[MOST_BYTES];
        int size = 0;

        void put(int four) {
            for (int shift = 24; shift >= 0; shift -= 8) {
                if (size < MOST_BYTES) {
                    bytes[size] = (byte) (four >> shift);
                    size++;
                }
            }
        }
    }

    /** A BASE as it is told, and the acts on it. Without lines there is none, and all is 0. */
    private static final class Base {
        int lines = 0;
        int top = 0;
        int law = 0;
        int odds = 0;
        int cells = 0;
        int rules = 0;
        int ops = 0;
        int acts = 0;
        int droppedRules = 0;
        int lockedOps = 0;
        final int[] kinds = new int[MOST_CELLS];
        final int[] ruleRows = new int[MOST_RULES * RULE_ROW];
        final int[] opRows = new int[MOST_OPS * OP_ROW];
        final int[] formerDropped = new int[MOST_ACTS];
        final int[] formerLocked = new int[MOST_ACTS];

        void clear() {
            lines = 0;
            top = 0;
            law = 0;
            odds = 0;
            cells = 0;
            rules = 0;
            ops = 0;
            acts = 0;
            droppedRules = 0;
            lockedOps = 0;
        }

        void copyOf(Base other) {
            lines = other.lines;
            top = other.top;
            law = other.law;
            odds = other.odds;
            cells = other.cells;
            rules = other.rules;
            ops = other.ops;
            acts = other.acts;
            droppedRules = other.droppedRules;
            lockedOps = other.lockedOps;
            System.arraycopy(other.kinds, 0, kinds, 0, kinds.length);
            System.arraycopy(other.ruleRows, 0, ruleRows, 0, ruleRows.length);
            System.arraycopy(other.opRows, 0, opRows, 0, opRows.length);
            System.arraycopy(other.formerDropped, 0, formerDropped, 0, formerDropped.length);
            System.arraycopy(other.formerLocked, 0, formerLocked, 0, formerLocked.length);
        }

        void act(int newDropped, int newLocked) {
            if (acts < 0 || acts >= MOST_ACTS) {
                return;
            }
            formerDropped[acts] = droppedRules;
            formerLocked[acts] = lockedOps;
            acts++;
            droppedRules = newDropped;
            lockedOps = newLocked;
        }

        void takeBackTo(int left) {
            if (left < 0 || left >= acts) {
                return;
            }
            droppedRules = formerDropped[left];
            lockedOps = formerLocked[left];
            acts = left;
        }
    }

    /** Reads the TAPE into a draft; the first FAULT ends it. */
    private static final class Reader {
        private static final int END = 0;
        private static final int WORD = 1;
        private static final int NUMBER = 2;
        private static final int SIGN = 3;
        private static final int STRANGE = 4;
        private static final int MISPLACED = 1;
        private static final int OUT_OF_BOUNDS = 2;
        private static final int TOO_MANY = 3;
        /** Above every bound: longer numbers are held here, so that they can't wrap around. */
        private static final int HUGE = 1000;
        private static final int MOST_SUM = 6;

        private final Tape tape;
        private final Base draft;
        private int token = END;
        private int start = 0;
        private int at = 0;
        private int number = 0;
        private int passed = 0;
        int faultKind = 0;
        int faultPlace = NONE;

        Reader(Tape tape, Base draft) {
            this.tape = tape;
            this.draft = draft;
        }

        boolean readTape() {
            draft.clear();
            faultKind = 0;
            faultPlace = NONE;
            at = 0;
            next();
            for (int line = 0; line < MOST_BYTES && token != END; line++) {
                if (!readLine()) {
                    return false;
                }
            }
            return true;
        }

        private boolean readLine() {
            boolean good;
            if (draft.lines == 0) {
                good = readHead();
            } else if (isWord("cell")) {
                good = readCell();
            } else if (isWord("rule")) {
                good = readRule();
            } else if (isWord("op")) {
                good = readOp();
            } else {
                good = failed(MISPLACED);
            }
            if (!good) {
                return false;
            }
            if (token != SIGN) {
                return failed(MISPLACED);
            }
            next();
            draft.lines++;
            return true;
        }

        private boolean readHead() {
            if (!passWord("base") || !passWord("top") || !passNumber(1, MOST_TOP)) {
                return false;
            }
            draft.top = passed;
            if (!passWord("law") || !passNumber(0, LAWS - 1)) {
                return false;
            }
            draft.law = passed;
            if (!passWord("odds") || !passNumber(0, MOST_ODDS)) {
                return false;
            }
            draft.odds = passed;
            return true;
        }

        private boolean readCell() {
            if (draft.cells >= MOST_CELLS) {
                return failed(TOO_MANY);
            }
            next();
            int kind = cellKind();
            if (kind == NONE) {
                return failed(MISPLACED);
            }
            next();
            draft.kinds[draft.cells] = kind;
            draft.cells++;
            return true;
        }

        private boolean readRule() {
            if (draft.rules >= MOST_RULES) {
                return failed(TOO_MANY);
            }
            next();
            int kind = ruleKind();
            if (kind == NONE) {
                return failed(MISPLACED);
            }
            next();
            if (!passNumbers(kind, ruleShape(kind), draft.ruleRows, draft.rules * RULE_ROW, RULE_ROW)) {
                return false;
            }
            draft.rules++;
            return true;
        }

        private boolean readOp() {
            if (draft.ops >= MOST_OPS) {
                return failed(TOO_MANY);
            }
            next();
            int kind = opKind();
            if (kind == NONE) {
                return failed(MISPLACED);
            }
            next();
            if (!passNumbers(kind, opShape(kind), draft.opRows, draft.ops * OP_ROW, OP_ROW)) {
                return false;
            }
            draft.ops++;
            return true;
        }

        private int cellKind() {
            return isWord("max") ? 0 : isWord("min") ? 1 : isWord("add") ? 2 : isWord("late") ? 3 : NONE;
        }

        private int ruleKind() {
            if (isWord("most")) {
                return 0;
            }
            if (isWord("least")) {
                return 1;
            }
            if (isWord("unlike")) {
                return 2;
            }
            if (isWord("sum")) {
                return 3;
            }
            if (isWord("order")) {
                return 4;
            }
            return isWord("if") ? 5 : NONE;
        }

        private int opKind() {
            return isWord("more") ? 0 : isWord("less") ? 1 : isWord("set") ? 2 : isWord("move") ? 3 : NONE;
        }

        // A: a cell, B: one other than the first number, N: 0 .. top, P: 1 .. top, S: 0 .. 6.

        private static String ruleShape(int kind) {
            switch (kind) {
                case 0:
                case 1:
                    return "AN";
                case 3:
                    return "ABS";
                case 5:
                    return "ANAN";
                default:
                    return "AB";
            }
        }

        private static String opShape(int kind) {
            switch (kind) {
                case 2:
                    return "AN";
                case 3:
                    return "ABP";
                default:
                    return "AP";
            }
        }

        private boolean passNumbers(int kind, String shape, int[] rows, int from, int width) {
            if (from < 0 || from + width > rows.length || shape.length() >= width) {
                return failed(TOO_MANY);
            }
            rows[from] = kind;
            for (int i = 1; i < width; i++) {
                rows[from + i] = NONE;
            }
            for (int i = 0; i < shape.length(); i++) {
                char sort = shape.charAt(i);
                if (token != NUMBER) {
                    return failed(MISPLACED);
                }
                boolean isAgain = sort == 'B' && number == rows[from + 1];
                if (isAgain || number > highestOf(sort) || sort == 'P' && number == 0) {
                    return failed(OUT_OF_BOUNDS);
                }
                rows[from + 1 + i] = number;
                next();
            }
            return true;
        }

        private int highestOf(char sort) {
            if (sort == 'A' || sort == 'B') {
                return draft.cells - 1;
            }
            return sort == 'S' ? MOST_SUM : draft.top;
        }

        private boolean passNumber(int low, int high) {
            if (token != NUMBER) {
                return failed(MISPLACED);
            }
            if (number < low || number > high) {
                return failed(OUT_OF_BOUNDS);
            }
            passed = number;
            next();
            return true;
        }

        private boolean passWord(String word) {
            if (!isWord(word)) {
                return failed(MISPLACED);
            }
            next();
            return true;
        }

        private boolean isWord(String word) {
            if (token != WORD || at - start != word.length() || at > tape.size) {
                return false;
            }
            for (int i = 0; i < word.length(); i++) {
                if (tape.bytes[start + i] != word.charAt(i)) {
                    return false;
                }
            }
            return true;
        }

        private boolean failed(int kind) {
            faultKind = kind;
            faultPlace = start;
            return false;
        }

        private void next() {
            while (at < tape.size && (tape.bytes[at] == 32 || tape.bytes[at] == 10)) {
                at++;
            }
            start = at;
            number = 0;
            if (at >= tape.size) {
                token = END;
                return;
            }
            if (isLetterNext()) {
                token = WORD;
                while (at < tape.size && isLetterNext()) {
                    at++;
                }
            } else if (isDigitNext()) {
                token = NUMBER;
                while (at < tape.size && isDigitNext()) {
                    number = Math.min(HUGE, number * 10 + tape.bytes[at] - '0');
                    at++;
                }
            } else {
                token = tape.bytes[at] == ';' ? SIGN : STRANGE;
                at++;
            }
        }

        private boolean isLetterNext() {
            return tape.bytes[at] >= 'a' && tape.bytes[at] <= 'z';
        }

        private boolean isDigitNext() {
            return tape.bytes[at] >= '0' && tape.bytes[at] <= '9';
        }
    }

    /** What follows from a BASE alone, without acts: kept as tables, for it is asked very often. */
    private static final class Space {
        int size = 0;
        int cells = 0;
        int top = 0;
        long whole = 0;
        final int[] place = new int[MOST_CELLS];
        /** A STATE's values, two bits at every sixth bit, so that three STATES make one place in each merge table. */
        final int[] packed = new int[MOST_STATES];
        /** Of a RULE, the STATES in which it holds, a bit each. */
        final long[] holding = new long[MOST_RULES];
        /** What an OP makes of a STATE, be it VALID or not; NONE: a value came out of 0 .. top. */
        final int[] results = new int[MOST_OPS * MOST_STATES];

        void load(Base base) {
            size = 0;
            whole = 0;
            cells = base.cells;
            top = base.top;
            if (base.lines == 0 || top < 1) {
                return;
            }
            int states = 1;
            for (int cell = 0; cell < cells; cell++) {
                place[cell] = states;
                states *= top + 1;
            }
            size = states;
            whole = size >= MOST_STATES ? -1L : (1L << size) - 1;
            for (int state = 0; state < size; state++) {
                packed[state] = packedOf(state);
            }
            for (int rule = 0; rule < base.rules; rule++) {
                holding[rule] = holdersOf(base.ruleRows, rule * RULE_ROW);
            }
            for (int op = 0; op < base.ops; op++) {
                for (int state = 0; state < size; state++) {
                    results[op * MOST_STATES + state] = resultOf(base.opRows, op * OP_ROW, state);
                }
            }
        }

        private int packedOf(int state) {
            int bits = 0;
            int rest = state;
            for (int cell = 0; cell < cells; cell++) {
                bits |= rest % (top + 1) << CELL_BITS * cell;
                rest /= top + 1;
            }
            return bits;
        }

        int digit(int state, int cell) {
            if (state < 0 || state >= MOST_STATES) {
                return 0;
            }
            return packed[state] >> CELL_BITS * cell & 3;
        }

        private long holdersOf(int[] rows, int from) {
            long holders = 0;
            for (int state = 0; state < size; state++) {
                if (holdsRow(rows, from, state)) {
                    holders |= 1L << state;
                }
            }
            return holders;
        }

        private boolean holdsRow(int[] rows, int from, int state) {
            int a = digit(state, rows[from + 1]);
            int second = rows[from + 2];
            int third = rows[from + 3];
            switch (rows[from]) {
                case 0:
                    return a <= second;
                case 1:
                    return a >= second;
                case 2:
                    return a != digit(state, second);
                case 3:
                    return a + digit(state, second) <= third;
                case 4:
                    return a <= digit(state, second);
                default:
                    return a < second || digit(state, third) >= rows[from + 4];
            }
        }

        private int resultOf(int[] rows, int from, int state) {
            int cell = rows[from + 1];
            int second = rows[from + 2];
            switch (rows[from]) {
                case 0:
                    return shifted(state, cell, second);
                case 1:
                    return shifted(state, cell, -second);
                case 2:
                    return shifted(state, cell, second - digit(state, cell));
                default:
                    int taken = shifted(state, cell, -rows[from + 3]);
                    return taken == NONE ? NONE : shifted(taken, second, rows[from + 3]);
            }
        }

        private int shifted(int state, int cell, int by) {
            if (cell < 0 || cell >= cells) {
                return NONE;
            }
            int value = digit(state, cell) + by;
            return value < 0 || value > top ? NONE : state + by * place[cell];
        }

        boolean keeps(int rule, int state) {
            return (holding[rule] >>> state & 1) != 0;
        }

        int cellsApart(int state, int other) {
            int apart = 0;
            for (int cell = 0; cell < cells; cell++) {
                if (digit(state, cell) != digit(other, cell)) {
                    apart++;
                }
            }
            return apart;
        }
    }

    /** How two sides merge: for each CELL a table by the values of the base and of both sides. */
    private static final class Merger {
        private final int[] mixed = new int[MOST_CELLS * CELL_PLACES];

        void fill(Base base, Space space, int law) {
            // A cell that is none has the value 0 in all STATES: its table's first place is 0 by every kind.
            for (int cell = 0; cell < base.cells && cell < MOST_CELLS; cell++) {
                fillCell(space, cell, base.kinds[cell], law);
            }
        }

        void fillCell(Space space, int cell, int kind, int law) {
            if (cell < 0 || cell >= MOST_CELLS) {
                return;
            }
            for (int i = 0; i < CELL_PLACES; i++) {
                int value = mix(kind, law, space.top, i >> 4, i >> 2 & 3, i & 3);
                mixed[cell * CELL_PLACES + i] = value * space.place[cell];
            }
        }

        private static int mix(int kind, int law, int top, int base, int first, int second) {
            switch (kind) {
                case 0:
                    return Math.max(first, second);
                case 1:
                    return Math.min(first, second);
                case 2:
                    return Math.max(0, Math.min(top, first + second - base));
                default:
                    return later(law, base, first, second);
            }
        }

        private static int later(int law, int base, int first, int second) {
            if (first == base) {
                return second;
            }
            if (second == base) {
                return first;
            }
            switch (law) {
                case 0:
                    return first;
                case 1:
                    return second;
                case 2:
                    return first > second ? first : second;
                default:
                    return base;
            }
        }

        int mergePacked(int base, int first, int second) {
            int key = base << 4 | first << 2 | second;
            return mixed[key & 63] + mixed[CELL_PLACES + (key >> 6 & 63)] + mixed[2 * CELL_PLACES + (key >> 12 & 63)];
        }
    }

    /** What is VALID, REACHED and a BREAK, as the acts have it, or as a question puts it for its own time. */
    private static final class Judge {
        private final Base told;
        private final Space space;
        private final Merger merger = new Merger();
        private int dropped = 0;
        private int locked = 0;
        long validStates = 0;
        private final int[] queue = new int[MOST_STATES];
        /** Of a first side, the second sides, not lesser, with which it is a BREAK, a bit each. */
        private final long[] broken = new long[MOST_STATES];
        private final long[] pairsSeen = new long[MOST_STATES];
        private final long[] within = new long[DEEPEST];
        final int[] hitsOf = new int[MOST_RULES];
        final int[] smallest = new int[5];

        Judge(Base told, Space space) {
            this.told = told;
            this.space = space;
        }

        void asTold() {
            merger.fill(told, space, told.law);
            suppose(told.droppedRules, told.lockedOps);
        }

        private void suppose(int droppedRules, int lockedOps) {
            dropped = droppedRules;
            locked = lockedOps;
            long states = space.whole;
            for (int rule = 0; rule < told.rules; rule++) {
                if ((droppedRules >> rule & 1) == 0) {
                    states &= space.holding[rule];
                }
            }
            validStates = states;
        }

        // ---- questions that suppose something, and take it back

        int validsWith(int droppedRules) {
            suppose(droppedRules, told.lockedOps);
            int found = Long.bitCount(validStates);
            suppose(told.droppedRules, told.lockedOps);
            return found;
        }

        int totalWith(int droppedRules, int lockedOps) {
            suppose(droppedRules, lockedOps);
            int found = total(1);
            suppose(told.droppedRules, told.lockedOps);
            return found;
        }

        boolean isSafeWith(int droppedRules, int d) {
            suppose(droppedRules, told.lockedOps);
            boolean answer = isSafe(d);
            suppose(told.droppedRules, told.lockedOps);
            return answer;
        }

        boolean isSafeAlone(int rule, int d) {
            int everyRule = (1 << told.rules) - 1;
            return isSafeWith(everyRule & ~(1 << rule), d);
        }

        int totalBy(int law) {
            merger.fill(told, space, law);
            int found = total(1);
            merger.fill(told, space, told.law);
            return found;
        }

        int totalOf(int cell, int kind) {
            merger.fillCell(space, cell, kind, told.law);
            int found = total(1);
            merger.fill(told, space, told.law);
            return found;
        }

        /** The BASE STATES, a bit each, that a row of merges leaves possible by a law. */
        long fitting(Slot row, int law) {
            merger.fill(told, space, law);
            long bases = validStates;
            for (int i = 0; i + 2 < row.size; i += 3) {
                int first = (int) row.numbers[i];
                int second = (int) row.numbers[i + 1];
                for (int base = 0; base < space.size; base++) {
                    if (merged(base, first, second) != row.numbers[i + 2]) {
                        bases &= ~(1L << base);
                    }
                }
            }
            merger.fill(told, space, told.law);
            return bases;
        }

        // ---- states and operations

        boolean isValid(int state) {
            return (validStates >>> state & 1) != 0;
        }

        int firstBroken(int state) {
            for (int rule = 0; rule < told.rules; rule++) {
                if (isBrokenBy(rule, state)) {
                    return rule;
                }
            }
            return NONE;
        }

        private boolean isBrokenBy(int rule, int state) {
            return (dropped >> rule & 1) == 0 && !space.keeps(rule, state);
        }

        int outcome(int op, int state) {
            int result = space.results[op * MOST_STATES + state];
            return result != NONE && (validStates >>> result & 1) != 0 ? result : NONE;
        }

        int openOps(int state) {
            int open = 0;
            for (int op = 0; op < told.ops; op++) {
                if (outcome(op, state) != NONE) {
                    open |= 1 << op;
                }
            }
            return open;
        }

        int worksFrom(int op) {
            int found = 0;
            for (int state = 0; state < space.size; state++) {
                if (isValid(state) && outcome(op, state) != NONE) {
                    found++;
                }
            }
            return found;
        }

        boolean commuting(int op, int other) {
            for (int state = 0; state < space.size; state++) {
                int first = outcome(op, state);
                int second = outcome(other, state);
                if (isValid(state) && first != NONE && second != NONE) {
                    int end = outcome(other, first);
                    if (end == NONE || end != outcome(op, second)) {
                        return false;
                    }
                }
            }
            return true;
        }

        int clashesOf(int op, int other) {
            int found = 0;
            for (int state = 0; state < space.size; state++) {
                int first = outcome(op, state);
                int second = outcome(other, state);
                if (isValid(state) && first != NONE && second != NONE && !isValid(merged(state, first, second))) {
                    found++;
                }
            }
            return found;
        }

        int merged(int base, int first, int second) {
            return merger.mergePacked(space.packed[base], space.packed[first], space.packed[second]);
        }

        // ---- what is REACHED

        /** The STATES, a bit each, that are REACHED in d without some OPS. */
        long spread(int from, int d, int without) {
            long seen = 1L << from;
            int head = 0;
            int tail = 1;
            queue[0] = from;
            for (int depth = 0; depth < d; depth++) {
                int end = tail;
                for (; head < end; head++) {
                    for (int op = 0; op < told.ops; op++) {
                        int next = (without >> op & 1) != 0 ? NONE : outcome(op, queue[head]);
                        if (next != NONE && (seen >>> next & 1) == 0 && tail < MOST_STATES) {
                            seen |= 1L << next;
                            queue[tail] = next;
                            tail++;
                        }
                    }
                }
            }
            return seen;
        }

        int distance(int base, int state) {
            if (!isValid(base)) {
                return NONE;
            }
            for (int d = 0; d <= DEEPEST; d++) {
                if ((spread(base, d, 0) >>> state & 1) != 0) {
                    return d;
                }
            }
            return NONE;
        }

        int firstStep(int base, int state) {
            int left = distance(base, state) - 1;
            if (left < 0) {
                return NONE;
            }
            for (int op = 0; op < told.ops; op++) {
                int next = outcome(op, base);
                if (next != NONE && (spread(next, left, 0) >>> state & 1) != 0) {
                    return op;
                }
            }
            return NONE;
        }

        // ---- BREAKS

        int total(int d) {
            int found = 0;
            for (int base = 0; base < space.size; base++) {
                found += breaksFrom(base, d);
            }
            return found;
        }

        boolean isSafe(int d) {
            for (int base = 0; base < space.size; base++) {
                if (breaksFrom(base, d) > 0) {
                    return false;
                }
            }
            return true;
        }

        /** How many BREAKS from a BASE STATE there are; which, is in broken then. */
        int breaksFrom(int base, int d) {
            if (!isValid(base)) {
                return 0;
            }
            mark(base, spread(base, d, 0), spread(base, d, locked));
            int found = 0;
            for (int first = 0; first < space.size; first++) {
                found += Long.bitCount(broken[first]);
            }
            return found;
        }

        private void mark(int base, long reached, long free) {
            int[] packed = space.packed;
            for (int first = 0; first < space.size; first++) {
                broken[first] = 0;
                if ((reached >>> first & 1) == 0) {
                    continue;
                }
                // A first side that is not free needs a second one that is.
                long seconds = (free >>> first & 1) != 0 ? reached : free;
                for (int second = first; second < space.size; second++) {
                    if ((seconds >>> second & 1) != 0) {
                        int result = merger.mergePacked(packed[base], packed[first], packed[second]);
                        broken[first] |= isValid(result) ? 0 : 1L << second;
                    }
                }
            }
        }

        int unlikePairs(int d) {
            for (int first = 0; first < space.size; first++) {
                pairsSeen[first] = 0;
            }
            for (int base = 0; base < space.size; base++) {
                if (breaksFrom(base, d) > 0) {
                    for (int first = 0; first < space.size; first++) {
                        pairsSeen[first] |= broken[first];
                    }
                }
            }
            int found = 0;
            for (int first = 0; first < space.size; first++) {
                found += Long.bitCount(pairsSeen[first]);
            }
            return found;
        }

        /** Puts into hitsOf how many BREAKS break each RULE. */
        void countHits(int d) {
            for (int rule = 0; rule < MOST_RULES; rule++) {
                hitsOf[rule] = 0;
            }
            for (int base = 0; base < space.size; base++) {
                if (breaksFrom(base, d) > 0) {
                    countHitsFrom(base);
                }
            }
        }

        private void countHitsFrom(int base) {
            for (int first = 0; first < space.size; first++) {
                for (int second = first; second < space.size; second++) {
                    if ((broken[first] >>> second & 1) != 0) {
                        countHitsOf(merged(base, first, second));
                    }
                }
            }
        }

        private void countHitsOf(int state) {
            for (int rule = 0; rule < told.rules; rule++) {
                if (isBrokenBy(rule, state)) {
                    hitsOf[rule]++;
                }
            }
        }

        /** Puts the SMALLEST BREAK into smallest, if there is one. */
        boolean findSmallest(int d) {
            smallest[4] = 2 * DEEPEST + 1;
            for (int base = 0; base < space.size; base++) {
                if (breaksFrom(base, d) > 0) {
                    for (int depth = 0; depth < DEEPEST; depth++) {
                        within[depth] = spread(base, depth, 0);
                    }
                    findSmallestFrom(base);
                }
            }
            return smallest[4] <= 2 * DEEPEST;
        }

        // Bases and sides come from the least on: only one of fewer OPS takes another one's place.
        private void findSmallestFrom(int base) {
            for (int first = 0; first < space.size; first++) {
                for (int second = first; second < space.size; second++) {
                    if ((broken[first] >>> second & 1) != 0) {
                        int ops = depthOf(first) + depthOf(second);
                        if (ops < smallest[4]) {
                            smallest[0] = base;
                            smallest[1] = first;
                            smallest[2] = second;
                            smallest[3] = merged(base, first, second);
                            smallest[4] = ops;
                        }
                    }
                }
            }
        }

        private int depthOf(int state) {
            for (int depth = 0; depth < DEEPEST; depth++) {
                if ((within[depth] >>> state & 1) != 0) {
                    return depth;
                }
            }
            return DEEPEST;
        }

        // ---- LOCKS

        int leastLocks(int d) {
            long sets = safeLocks(d);
            int best = NONE;
            int fewestOps = MOST_OPS + 1;
            for (int set = 0; set < 1 << told.ops; set++) {
                if ((sets >>> set & 1) != 0 && Integer.bitCount(set) < fewestOps) {
                    fewestOps = Integer.bitCount(set);
                    best = set;
                }
            }
            return best;
        }

        int commonLocks(int d) {
            long sets = safeLocks(d);
            int common = (1 << told.ops) - 1;
            for (int set = 0; set < 1 << told.ops; set++) {
                if ((sets >>> set & 1) != 0) {
                    common &= set;
                }
            }
            return common;
        }

        /** The sets of OPS by which it is SAFE, a bit each. Which merges are bad is found once for all sets. */
        private long safeLocks(int d) {
            long sets = (1L << (1 << told.ops)) - 1;
            for (int base = 0; base < space.size; base++) {
                if (isValid(base)) {
                    long reached = spread(base, d, 0);
                    mark(base, reached, reached);
                    for (int set = 0; set < 1 << told.ops; set++) {
                        if ((sets >>> set & 1) != 0 && hasBreakAmong(spread(base, d, set))) {
                            sets &= ~(1L << set);
                        }
                    }
                }
            }
            return sets;
        }

        private boolean hasBreakAmong(long free) {
            for (int first = 0; first < space.size; first++) {
                long seconds = (free >>> first & 1) != 0 ? broken[first] : broken[first] & free;
                if (seconds != 0) {
                    return true;
                }
            }
            return false;
        }
    }

    /** SHARES, the GAME, CHANCE and AUDITS. */
    private static final class Chances {
        private static final int MOST_SETS = 32;
        private static final int STEPS_OF_DIVISION = 200;

        private final Base told;
        private final Judge judge;
        private final int[] worths = new int[MOST_SETS];
        /** By the choices of two OPS: 1 the first one is LOCKED, 2 the other one. */
        private final int[] breaksBy = new int[4];

        Chances(Base told, Judge judge) {
            this.told = told;
            this.judge = judge;
        }

        int othersDropped(int set) {
            int everyRule = (1 << told.rules) - 1;
            return told.droppedRules | everyRule & ~set;
        }

        long shareOf(int rule, int what) {
            int own = 1 << rule;
            for (int set = 0; set < 1 << told.rules && set < MOST_SETS; set++) {
                worths[set] = judge.totalWith(othersDropped(set), told.lockedOps);
            }
            long above = 0;
            for (int set = 0; set < 1 << told.rules && set < MOST_SETS; set++) {
                if ((set & own) != 0) {
                    int ahead = Integer.bitCount(set) - 1;
                    long orders = factorial(ahead) * factorial(told.rules - 1 - ahead);
                    above += orders * (worths[set] - worths[set & ~own]);
                }
            }
            return lowest(above, factorial(told.rules), what);
        }

        private static long factorial(int n) {
            long product = 1;
            for (int i = 2; i <= n; i++) {
                product *= i;
            }
            return product;
        }

        /** The upper (what 0) or lower number of a fraction in lowest terms. */
        private static long lowest(long above, long below, int what) {
            long divisor = Math.abs(above);
            long rest = below;
            for (int i = 0; i < STEPS_OF_DIVISION && rest != 0; i++) {
                long next = divisor % rest;
                divisor = rest;
                rest = next;
            }
            if (divisor == 0) {
                return what == 0 ? above : below;
            }
            return what == 0 ? above / divisor : below / divisor;
        }

        int gain(int op, int choice, int other, int otherChoice) {
            int lockedOps = told.lockedOps | choice << op | otherChoice << other;
            return judge.worksFrom(op) - judge.totalWith(told.droppedRules, lockedOps) - 2 * choice;
        }

        int restsOf(int op, int other) {
            for (int pair = 0; pair < 4; pair++) {
                int lockedOps = told.lockedOps | (pair & 1) << op | (pair >> 1) << other;
                breaksBy[pair] = judge.totalWith(told.droppedRules, lockedOps);
            }
            int found = 0;
            for (int pair = 0; pair < 4; pair++) {
                // What an OP GETS beside BREAKS and its own choice stays the same: only these are compared.
                boolean content = breaksBy[pair] + 2 * (pair & 1) <= breaksBy[pair ^ 1] + 2 * (~pair & 1);
                boolean otherContent = breaksBy[pair] + (pair & 2) <= breaksBy[pair ^ 2] + (~pair & 2);
                if (content && otherContent) {
                    found |= 1 << pair;
                }
            }
            return found;
        }

        long safety(int what) {
            long above = 0;
            for (int set = 0; set < 1 << told.rules; set++) {
                if (oddsOf(set) != 0 && judge.isSafeWith(told.droppedRules | set, 1)) {
                    above += oddsOf(set);
                }
            }
            return lowest(above, power(10, told.rules), what);
        }

        long meanOfValids(int what) {
            long above = 0;
            for (int set = 0; set < 1 << told.rules; set++) {
                above += oddsOf(set) * judge.validsWith(told.droppedRules | set);
            }
            return lowest(above, power(10, told.rules), what);
        }

        /** By how many of all the 10 to the RULES cases just this set is DROPPED. */
        private long oddsOf(int set) {
            int gone = Integer.bitCount(set);
            return power(told.odds, gone) * power(10 - told.odds, told.rules - gone);
        }

        private static long power(int number, int times) {
            long product = 1;
            for (int i = 0; i < times; i++) {
                product *= number;
            }
            return product;
        }

        int draw(long seed) {
            long x = seed;
            int gone = 0;
            for (int rule = 0; rule < told.rules; rule++) {
                x = (1103515245L * x + 12345L) % 2147483648L;
                if (x / 65536 % 10 < told.odds) {
                    gone |= 1 << rule;
                }
            }
            return gone;
        }
    }

    /** A row of numbers of one WIDTH, or nothing. */
    private static final class Slot {
        boolean there = false;
        int width = 0;
        int size = 0;
        final long[] numbers = new long[MOST_NUMBERS];

        void renew(int newWidth, int newSize) {
            there = true;
            width = newWidth;
            size = newSize;
            for (int i = 0; i < MOST_NUMBERS; i++) {
                numbers[i] = 0;
            }
        }

        long cut(long v) {
            switch (width) {
                case 0:
                    return (byte) v;
                case 1:
                    return (short) v;
                case 2:
                    return (int) v;
                default:
                    return v;
            }
        }

        boolean spans(int from, int n) {
            return from >= 0 && n >= 0 && from <= size && n <= size - from;
        }
    }
}
