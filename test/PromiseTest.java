import java.nio.charset.StandardCharsets;

/** Promise by promise, answers worked out by hand from the document: usual inputs, edges and wrong inputs. */
public final class PromiseTest {
    private static final String EXAMPLE = "base top 2 law 0 odds 5;cell max;cell add;rule most 1 1;rule sum 0 1 3;"
            + "op more 0 1;op more 1 1;";
    /** VALID are 0, 1, 2; from 0 the sides 1, 2 and 2, 2 merge to 3, from 1 the sides 2, 2. */
    private static final String COUNTER = "base top 3 law 2 odds 3;cell add;rule most 0 2;op more 0 1;op more 0 2;";
    /** Where a 2 in cell 0 asks for a 1 in cell 1. */
    private static final String LATE = "base top 2 law 0 odds 0;cell late;cell late;rule if 0 2 1 1;op move 1 0 1;"
            + "op set 0 2;op set 0 1;";
    private static final String EMPTY = "base top 1 law 3 odds 10;";
    private static final String HEAD = "base top 1 law 0 odds 0;";
    private static final int MIN = Integer.MIN_VALUE;
    private static final int MAX = Integer.MAX_VALUE;

    private static int promise = 0;
    private static int asked = 0;
    private static int wrong = 0;

    private static void due(long got, long want) {
        asked++;
        if (got != want) {
            wrong++;
            StackTraceElement from = Thread.currentThread().getStackTrace()[2];
            System.out.println("promise " + promise + ", line " + from.getLineNumber() + ": answered " + got
                    + ", due is " + want);
        }
    }

    private static int tell(MergeJudge x, String text) {
        byte[] bytes = text.getBytes(StandardCharsets.ISO_8859_1);
        int before = x.count(8);
        int[] n = new int[5];
        for (int at = 0; at < bytes.length; at += 20) {
            for (int i = 0; i < 20; i++) {
                int sign = at + i < bytes.length ? bytes[at + i] & 255 : 32;
                n[i / 4] = n[i / 4] << 8 | sign;
            }
            x.feed(n[0], n[1], n[2], n[3], n[4]);
        }
        x.end(before + bytes.length);
        return x.base();
    }

    private static MergeJudge of(String text) {
        MergeJudge x = new MergeJudge();
        due(tell(x, text), text.chars().filter(c -> c == ';').count());
        return x;
    }

    private static void fault(String text, int kind, int place) {
        MergeJudge x = new MergeJudge();
        due(tell(x, text), -4);
        due(x.fault(0), kind);
        due(x.fault(1), place);
        due(x.count(8), 0);
        due(x.states(), -2);
    }

    public static void main(String[] args) {
        theText();
        theFaults();
        whatIsTold();
        theStates();
        theOps();
        theMerges();
        theReached();
        theBreaks();
        theSmallest();
        theRules();
        theLocks();
        theStatesAgain();
        theCures();
        theSeen();
        theShares();
        theGame();
        theChance();
        theActs();
        theAudits();
        theImages();
        theSlots();
        System.out.println(asked + " answers, " + wrong + " wrong");
        if (wrong != 0) {
            System.exit(1);
        }
    }

    private static void theText() {
        promise = 1;
        MergeJudge x = new MergeJudge();
        due(MergeJudge.NONE, -1);
        due(x.states(), -2);
        due(x.count(7), 0);
        due(x.valid(0), -2);
        due(x.back(0), -6);
        due(x.fits(0), -2);
        promise = 2;
        for (int i = 1; i <= 20; i++) {
            due(x.feed(MIN, MAX, -1, 0, 1), 20 * i);
        }
        due(x.feed(0, 0, 0, 0, 0), -1);
        due(x.count(8), 400);
        due(x.end(381), 381);
        due(x.feed(0, 0, 0, 0, 0), -1);
        due(x.end(380), 380);
        due(x.feed(0, 0, 0, 0, 0), 400);
        promise = 3;
        due(x.end(401), -1);
        due(x.end(-1), -1);
        due(x.end(MIN), -1);
        due(x.end(MAX), -1);
        due(x.count(8), 400);
        due(x.end(400), 400);
        due(x.end(7), 7);
        due(x.end(8), -1);
        due(x.end(0), 0);
        promise = 2;
        // "base", " top", " 1 l", "aw 0", " odd" by four bytes each, the highest first.
        due(x.feed(0x62617365, 0x20746f70, 0x2031206c, 0x61772030, 0x206f6464), 20);
        due(x.feed(0x7320373b, 0x20202020, 0x20202020, 0x20202020, 0x0a0a0a0a), 40);
        due(x.base(), 1);
        due(x.count(2), 7);
        promise = 4;
        due(x.count(8), 0);
        due(x.base(), 0);
        due(x.states(), -2);
        due(x.count(2), 0);
        x = of(EXAMPLE);
        x.lock(0);
        due(tell(x, "rule most 0 1;"), -4);
        due(x.count(8), 0);
        due(x.states(), 9);
        due(x.locked(), 1);
        due(x.count(6), 1);
        due(tell(x, COUNTER), 5);
        due(x.states(), 4);
        due(x.locked(), 0);
        due(x.count(6), 0);
        due(tell(x, " \n \n"), 0);
        due(x.states(), -2);
        for (int what = 0; what < 9; what++) {
            due(x.count(what), 0);
        }
        due(x.cell(0), -2);
        due(x.all(0), -2);
        due(x.undo(), -2);
        due(x.worth(0), -2);
    }

    private static void theFaults() {
        promise = 5;
        MergeJudge x = new MergeJudge();
        due(x.fault(0), 0);
        due(x.fault(1), -1);
        due(x.fault(2), -1);
        due(x.fault(-1), -1);
        fault(";", 1, 0);
        fault(" \n7", 1, 2);
        fault("cell max;", 1, 0);
        fault("bases top 1 law 0 odds 0;", 1, 0);
        fault("Base top 1 law 0 odds 0;", 1, 0);
        fault("base top 1 law 0 odds 0;\tcell max;", 1, 24);
        fault(HEAD + "cell m\u00e1x;", 1, 29);
        fault("base", 1, 4);
        fault("base \n ", 1, 7);
        fault("base law 0", 1, 5);
        fault("base top max", 1, 9);
        fault("base top 0 law 9", 2, 9);
        fault("base top 4 law 0 odds 0;", 2, 9);
        fault("base top 4294967297 law 0 odds 0;", 2, 9);
        fault("base top 99999999999999999999999999 law 0 odds 0;", 2, 9);
        fault("base top 1 law 4 odds 0;", 2, 15);
        fault("base top 1 law 0 odds 11;", 2, 22);
        fault("base top 1 law 0 odds 0 0;", 1, 24);
        fault("base top 1 law 0 odds -1;", 1, 22);
        fault("base top 1 law 0 odds 0", 1, 23);
        fault(HEAD + ";", 1, 24);
        fault(HEAD + HEAD, 1, 24);
        fault(HEAD + "cell sum;", 1, 29);
        fault(HEAD + "bell max;", 1, 24);
        fault(HEAD + "cell mix;", 1, 29);
        fault(HEAD + "cell maxx;", 1, 29);
        fault(HEAD + "cell max cell max;", 1, 33);
        fault(HEAD + "rule most 0 0;", 2, 34);
        fault(HEAD + "cell max;rule most 1 9;", 2, 43);
        fault(HEAD + "cell max;rule most 0 2;", 2, 45);
        fault(HEAD + "cell max;rule more 0 1;", 1, 38);
        fault(HEAD + "cell max;rule most 0 1 1;", 1, 47);
        fault(HEAD + "cell max;rule most 0 x", 1, 45);
        fault(HEAD + "cell max;rule unlike 0 0;", 2, 47);
        fault(HEAD + "cell max;rule order 0 1;cell max;", 2, 46);
        fault(HEAD + "cell max;cell max;rule sum 1 1 7;", 2, 53);
        fault(HEAD + "cell max;cell max;rule sum 1 0 7;", 2, 55);
        fault(HEAD + "cell max;rule if 0 2 0 1;", 2, 43);
        fault(HEAD + "cell max;rule if 0 1 1 1;", 2, 45);
        fault(HEAD + "cell max;rule if 0 1 0 2;", 2, 47);
        fault(HEAD + "cell max;op more 0 0;", 2, 43);
        fault(HEAD + "cell max;op less 0 2;", 2, 43);
        fault(HEAD + "cell max;op set 0 2;", 2, 42);
        fault(HEAD + "cell max;op move 0 0 1;", 2, 43);
        fault(HEAD + "cell max;cell max;op move 0 1 0;", 2, 54);
        fault(HEAD + "cell max;op most 0 1;", 1, 36);
        fault(HEAD + "cell max;cell max;cell max;cell huh;", 3, 51);
        fault(HEAD + "cell max;" + "rule most 0 1;".repeat(5) + "rule;", 3, 103);
        fault(HEAD + "cell max;" + "op more 0 1;".repeat(5) + "op", 3, 93);
        x = of(HEAD + "cell max;cell max;rule if 1 0 1 1;rule sum 0 1 6;op set 1 0;");
        due(x.fault(0), 0);
        due(x.fault(1), -1);
        tell(x, "?");
        due(x.fault(0), 1);
        due(x.fault(1), 0);
        due(tell(x, "base top003law00odds010 ;\ncell\nlate;rule least0 3;"), 3);
        due(x.fault(0), 0);
        due(x.fault(1), -1);
        due(x.rule(0, 2), 3);
    }

    private static final String ALL_KINDS = "base top 3 law 1 odds 4;cell max;cell min;cell late;"
            + "rule most 0 2;rule least 1 0;rule unlike 0 2;rule order 2 1;rule if 1 2 1 3;"
            + "op more 2 3;op less 1 2;op set 0 0;op move 2 0 1;";

    private static void whatIsTold() {
        MergeJudge x = of(ALL_KINDS);
        promise = 6;
        due(x.cell(0), 0);
        due(x.cell(1), 1);
        due(x.cell(2), 3);
        due(x.cell(3), -2);
        due(x.cell(-1), -2);
        due(x.cell(MIN), -2);
        due(of(EXAMPLE).cell(1), 2);
        promise = 7;
        int[][] rules = {{0, 0, 2, -1, -1}, {1, 1, 0, -1, -1}, {2, 0, 2, -1, -1}, {4, 2, 1, -1, -1}, {5, 1, 2, 1, 3}};
        for (int rule = 0; rule < 5; rule++) {
            for (int what = 0; what < 5; what++) {
                due(x.rule(rule, what), rules[rule][what]);
            }
        }
        due(x.rule(5, 0), -2);
        due(x.rule(-1, 0), -2);
        due(x.rule(0, 5), -2);
        due(x.rule(0, -1), -2);
        due(of(EXAMPLE).rule(1, 0), 3);
        due(of(EXAMPLE).rule(1, 3), 3);
        promise = 8;
        int[][] ops = {{0, 2, 3, -1}, {1, 1, 2, -1}, {2, 0, 0, -1}, {3, 2, 0, 1}};
        for (int op = 0; op < 4; op++) {
            for (int what = 0; what < 4; what++) {
                due(x.op(op, what), ops[op][what]);
            }
        }
        due(x.op(4, 0), -2);
        due(x.op(0, 4), -2);
        due(x.op(0, MIN), -2);
        promise = 9;
        due(x.states(), 64);
        due(of(EMPTY).states(), 1);
        due(of(COUNTER).states(), 4);
        promise = 10;
        due(x.value(27, 0), 3);
        due(x.value(27, 1), 2);
        due(x.value(27, 2), 1);
        due(x.value(63, 2), 3);
        due(x.value(64, 0), -2);
        due(x.value(-1, 0), -2);
        due(x.value(0, 3), -2);
        due(of(EMPTY).value(0, 0), -2);
    }

    private static void theStates() {
        MergeJudge x = of(ALL_KINDS);
        promise = 11;
        // most 0 2, least 1 0, unlike 0 2, order 2 1, if 1 2 1 3: the state is the values 3, 2, 1 of cells 0, 1, 2.
        due(x.holds(0, 27), 0);
        due(x.holds(1, 27), 1);
        due(x.holds(2, 27), 1);
        due(x.holds(3, 27), 1);
        due(x.holds(4, 27), 0);
        due(x.holds(0, 26), 1);
        due(x.holds(2, 0), 0);
        due(x.holds(3, 16), 0);
        due(x.holds(4, 4), 1);
        due(x.holds(4, 12), 1);
        due(of(EXAMPLE).holds(1, 8), 0);
        due(of(EXAMPLE).holds(1, 7), 1);
        due(of("base top 2 law 0 odds 0;cell max;rule least 0 1;").holds(0, 0), 0);
        due(x.holds(5, 0), -2);
        due(x.holds(0, 64), -2);
        due(x.holds(-1, 0), -2);
        x.drops(0);
        due(x.holds(0, 27), 0);
        promise = 12;
        due(x.dropped(), 1);
        x.drops(3);
        due(x.dropped(), 9);
        due(new MergeJudge().dropped(), -2);
        promise = 13;
        due(x.locked(), 0);
        x.lock(1);
        x.lock(3);
        due(x.locked(), 10);
        due(new MergeJudge().locked(), -2);
        promise = 14;
        x = of(COUNTER);
        due(x.valid(2), 1);
        due(x.valid(3), 0);
        due(x.valid(4), -2);
        due(x.valid(-1), -2);
        due(of(EMPTY).valid(0), 1);
        x.drops(0);
        due(x.valid(3), 1);
        promise = 15;
        due(x.valids(), 4);
        x.undo();
        due(x.valids(), 3);
        due(of(EXAMPLE).valids(), 6);
        due(new MergeJudge().valids(), -2);
        promise = 16;
        x = of(EXAMPLE);
        due(x.breaks(8), 0);
        due(x.breaks(5), -1);
        x.drops(0);
        due(x.breaks(8), 1);
        due(x.breaks(7), -1);
        due(x.breaks(9), -2);
        due(x.breaks(-1), -2);
        due(new MergeJudge().breaks(0), -2);
    }

    private static void theOps() {
        MergeJudge x = of(ALL_KINDS);
        for (int rule = 0; rule < 5; rule++) {
            x.drops(rule);
        }
        promise = 17;
        due(x.does(0, 15), 63);
        due(x.does(0, 16), -1);
        due(x.does(1, 12), 4);
        due(x.does(1, 4), -1);
        due(x.does(2, 27), 24);
        due(x.does(2, 24), 24);
        due(x.does(3, 16), 1);
        due(x.does(3, 15), -1);
        due(x.does(3, 51), -1);
        due(x.does(4, 0), -2);
        due(x.does(0, 64), -2);
        due(x.does(-1, 0), -2);
        x.anew();
        // From 3, 0, 0 (not VALID) to 0, 0, 0, which unlike 0 2 forbids; from 3, 0, 1 order 2 1 does.
        due(x.does(2, 3), -1);
        x.drops(2);
        due(x.does(2, 3), 0);
        due(of(EXAMPLE).does(0, 2), -1);
        due(of(COUNTER).does(1, 1), -1);
        due(of(COUNTER).does(1, 0), 2);
        promise = 18;
        x = of(COUNTER);
        due(x.works(0), 2);
        due(x.works(1), 1);
        due(x.works(2), -2);
        due(x.works(-1), -2);
        x.lock(0);
        due(x.works(0), 2);
        x.drops(0);
        due(x.works(0), 3);
        promise = 19;
        x = of(EXAMPLE);
        due(x.commute(0, 1), 1);
        due(x.commute(1, 0), 1);
        due(x.commute(0, 0), 0);
        due(of(COUNTER).commute(0, 1), 0);
        x = of("base top 3 law 0 odds 0;cell max;op set 0 1;op set 0 2;op less 0 3;");
        due(x.commute(0, 0), 1);
        due(x.commute(0, 1), 0);
        due(x.commute(0, 2), 0);
        due(x.commute(2, 2), 0);
        due(x.commute(0, 3), -2);
        due(x.commute(-1, 0), -2);
        promise = 20;
        due(x.table(), 0);
        due(of(EXAMPLE).table(), 1);
        due(of("base top 1 law 0 odds 0;cell max;cell max;op set 0 1;op set 0 1;op set 1 0;").table(), 3);
        due(of(EMPTY).table(), 0);
        due(new MergeJudge().table(), -2);
        promise = 46;
        x = of(EXAMPLE);
        due(x.opens(0), 3);
        due(x.opens(2), 2);
        due(x.opens(5), 0);
        due(x.opens(6), 0);
        x.lock(1);
        due(x.opens(0), 3);
        due(x.opens(9), -2);
        due(x.opens(-1), -2);
        due(of("base top 2 law 0 odds 0;cell max;rule most 0 1;op less 0 1;").opens(2), 1);
        promise = 47;
        due(x.dead(), 1);
        due(of(COUNTER).dead(), 1);
        due(of(EMPTY).dead(), 1);
        due(of("base top 2 law 0 odds 0;cell max;op set 0 0;").dead(), 0);
        due(new MergeJudge().dead(), -2);
    }

    private static void theMerges() {
        promise = 21;
        int[] late = {2, 3, 3, 1};
        int[] lateBack = {3, 2, 3, 1};
        for (int law = 0; law < 4; law++) {
            MergeJudge x = of("base top 3 law " + law + " odds 0;cell late;");
            due(x.merge(1, 2, 3), late[law]);
            due(x.merge(1, 3, 2), lateBack[law]);
            due(x.merge(1, 0, 0), law == 3 ? 1 : 0);
            due(x.merge(1, 1, 3), 3);
            due(x.merge(1, 0, 1), 0);
            due(x.merge(2, 2, 2), 2);
            promise = 22;
            due(x.even(1, 2, 3), law < 2 ? 0 : 1);
            due(x.even(1, 1, 3), 1);
            promise = 21;
        }
        MergeJudge x = of("base top 3 law 0 odds 0;cell max;cell min;cell add;");
        // Of values 1, 1, 1 the sides 2, 3, 2 and 0, 0, 3 come to 2, 0, 3 (4 is above top).
        due(x.merge(21, 46, 48), 50);
        due(x.merge(21, 0, 0), 0);
        due(x.merge(48, 32, 16), 0);
        due(x.merge(16, 32, 32), 48);
        due(x.merge(64, 0, 0), -2);
        due(x.merge(0, 64, 0), -2);
        due(x.merge(0, 0, -1), -2);
        due(new MergeJudge().merge(0, 0, 0), -2);
        due(of(EMPTY).merge(0, 0, 0), 0);
        due(of(COUNTER).merge(3, 3, 2), 2);
        promise = 22;
        due(x.even(21, 46, 48), 1);
        due(x.even(64, 0, 0), -2);
        due(x.even(0, 64, 0), -2);
        due(x.even(0, 0, 64), -2);
        promise = 48;
        x = of(EXAMPLE);
        due(x.clashes(1, 1), 3);
        due(x.clashes(0, 1), 0);
        due(x.clashes(0, 2), -2);
        due(x.clashes(-1, 0), -2);
        x = of(COUNTER);
        due(x.clashes(0, 1), 1);
        due(x.clashes(0, 0), 1);
        due(x.clashes(1, 1), 1);
        x.lock(0);
        x.lock(1);
        due(x.clashes(0, 0), 1);
        firstSides();
    }

    private static void firstSides() {
        MergeJudge x = of(LATE);
        // From 0, 1 (3): a move comes to 1, 0 (1), set 2 to 2, 1 (5); LAW 0 merges 1, 5 to 1, 0 and 5, 1 to 2, 0.
        due(x.does(0, 3), 1);
        due(x.does(1, 3), 5);
        due(x.merge(3, 1, 5), 1);
        due(x.merge(3, 5, 1), 2);
        due(x.valid(2), 0);
        // From 0, 2 (6) the other way is to 1, 1 and 2, 2: 1, 1 and 2, 1, both VALID.
        due(x.clashes(0, 1), 0);
        due(x.clashes(1, 0), 1);
        promise = 27;
        // As a BREAK the lesser STATE is the first side.
        due(x.bad(3, 1), 0);
        due(of(LATE.replace("law 0", "law 1")).bad(3, 1), 1);
    }

    private static void theReached() {
        MergeJudge x = of(COUNTER);
        promise = 23;
        due(x.reach(0, 0), 1);
        due(x.reach(0, 1), 3);
        due(x.reach(1, 3), 2);
        due(x.reach(2, 3), 1);
        due(x.reach(3, 1), -1);
        due(x.reach(4, 1), -2);
        due(x.reach(0, 4), -2);
        due(x.reach(0, -1), -2);
        due(new MergeJudge().reach(0, 0), -2);
        due(of(EXAMPLE).reach(0, 2), 5);
        promise = 24;
        x = of("base top 3 law 0 odds 0;cell add;cell add;rule most 1 2;op more 0 1;op more 0 2;op more 1 1;");
        due(x.far(0, 0), 0);
        due(x.far(0, 3), 2);
        due(x.far(0, 7), 3);
        due(x.far(0, 11), -1);
        due(x.far(0, 12), -1);
        due(x.far(1, 0), -1);
        due(x.far(12, 12), -1);
        due(x.far(16, 0), -2);
        due(x.far(0, 16), -2);
        due(x.far(-1, 0), -2);
        x.lock(0);
        due(x.far(0, 3), 2);
        promise = 25;
        due(x.step(0, 3), 0);
        due(x.step(0, 2), 1);
        due(x.step(0, 6), 1);
        due(x.step(0, 8), 2);
        due(x.step(0, 0), -1);
        due(x.step(0, 12), -1);
        due(x.step(1, 0), -1);
        due(x.step(16, 0), -2);
        due(x.step(0, 16), -2);
        due(of("base top 3 law 0 odds 0;cell add;op more 0 2;op more 0 1;").step(0, 3), 0);
        promise = 26;
        x = of(COUNTER);
        due(x.freely(0, 1), 3);
        x.lock(1);
        due(x.freely(0, 1), 2);
        due(x.freely(0, 2), 3);
        due(x.reach(0, 1), 3);
        x.lock(0);
        due(x.freely(0, 3), 1);
        due(x.freely(3, 3), -1);
        due(x.freely(4, 0), -2);
        due(x.freely(0, 4), -2);
        promise = 53;
        due(x.asked(0, 1), 3);
        due(x.asked(0, 0), 0);
        due(x.asked(3, 1), 0);
        due(x.asked(4, 1), -2);
        due(x.asked(0, 4), -2);
        x.frees(0);
        due(x.asked(0, 1), 1);
        due(x.asked(0, 2), 0);
    }

    private static void theBreaks() {
        MergeJudge x = of(COUNTER);
        promise = 27;
        due(x.bad(0, 0), 0);
        due(x.bad(0, 1), 2);
        due(x.bad(1, 1), 1);
        due(x.bad(2, 3), 0);
        due(x.bad(3, 1), 0);
        due(x.bad(4, 1), -2);
        due(x.bad(0, 4), -2);
        due(x.bad(0, -1), -2);
        x.lock(1);
        due(x.bad(0, 1), 1);
        due(x.bad(0, 2), 2);
        due(x.bad(1, 1), 1);
        x.undo();
        x.lock(0);
        due(x.bad(0, 1), 2);
        due(x.bad(1, 1), 0);
        x.anew();
        promise = 28;
        due(x.all(0), 0);
        due(x.all(1), 3);
        due(x.all(3), 3);
        due(x.all(4), -2);
        due(x.all(-1), -2);
        due(of(EXAMPLE).all(2), 7);
        due(new MergeJudge().all(1), -2);
        promise = 29;
        due(x.pairs(1), 2);
        due(x.pairs(0), 0);
        due(x.pairs(4), -2);
        due(of(EXAMPLE).pairs(2), 5);
        // From 1, 0 to 0, 0 and to 1, 1, that merge to 0, 1.
        MergeJudge z = of("base top 1 law 0 odds 0;cell late;cell late;rule order 1 0;op less 0 1;op more 1 1;");
        due(z.pairs(1), 1);
        due(z.pairs(1), 1);
        z.drops(0);
        due(z.pairs(1), 0);
        promise = 30;
        due(x.safe(0), 1);
        due(x.safe(1), 0);
        due(x.safe(MAX), -2);
        x.drops(0);
        due(x.safe(3), 1);
        x.undo();
        promise = 31;
        due(x.bound(), 0);
        due(of(EMPTY).bound(), 3);
        due(new MergeJudge().bound(), -2);
        // From 0, 1 in two steps to 1, 0: with a side that stays it merges to 1, 1.
        x = of("base top 1 law 3 odds 0;cell max;cell max;rule sum 1 0 1;op set 1 0;op more 0 1;");
        due(x.bound(), 1);
        due(x.all(1), 0);
        due(x.all(2), 1);
        due(x.calm(2), 1);
        due(x.least(2, 1), 1);
        due(x.least(2, 2), 2);
        due(x.least(2, 4), 2);
        // From 2, 0 in three steps to 0, 2: with 1, 0 it merges, by the first's law, to 1, 2.
        x = of("base top 2 law 0 odds 0;cell late;cell max;rule sum 0 1 2;op set 1 2;op less 0 1;");
        due(x.bound(), 2);
        due(x.all(3), 1);
        due(x.least(3, 1), 1);
        due(x.least(3, 2), 6);
        due(x.least(3, 4), 4);
        x = of(COUNTER);
        promise = 43;
        due(x.bare(1), 2);
        due(x.bare(0), 0);
        due(x.bare(4), -2);
        due(of(EXAMPLE).bare(1), 3);
        promise = 44;
        due(x.calm(0), 0);
        due(x.calm(2), 3);
        due(x.calm(3), -1);
        due(x.calm(4), -2);
        x.lock(0);
        due(x.calm(1), 3);
        x.undo();
        promise = 45;
        due(x.hot(1), 0);
        due(x.hot(0), -1);
        due(x.hot(4), -2);
        due(of("base top 3 law 0 odds 0;cell add;rule least 0 1;op less 0 1;").hot(1), 2);
        due(of(EXAMPLE).hot(1), 0);
    }

    private static void theSmallest() {
        MergeJudge x = of(COUNTER);
        promise = 32;
        int[] least = {0, 1, 2, 3, 2};
        for (int what = 0; what < 5; what++) {
            due(x.least(1, what), least[what]);
            due(x.least(3, what), least[what]);
            due(x.least(0, what), -1);
        }
        due(x.least(1, 5), -2);
        due(x.least(1, -1), -2);
        due(x.least(4, 0), -2);
        due(x.least(0, 5), -2);
        // Both sides take two steps to 2 from 0; from 1 there is a BREAK of one step each: fewer OPS go ahead.
        x = of("base top 3 law 0 odds 0;cell add;rule most 0 2;op more 0 1;");
        int[] two = {1, 2, 2, 3, 2};
        for (int what = 0; what < 5; what++) {
            due(x.least(2, what), two[what]);
        }
        // From 1, 1 in three steps to 2, 2: twice that, it merges to 2, 1.
        x = of("base top 2 law 3 odds 0;cell min;cell late;rule order 0 1;op move 0 1 1;op more 0 1;");
        int[] six = {4, 8, 8, 5, 6};
        for (int what = 0; what < 5; what++) {
            due(x.least(3, what), six[what]);
            due(x.least(2, what), -1);
        }
        // LOCKED OPS count as steps, too: 2 is one step away by op 1, though freely it is two.
        x = of(COUNTER);
        x.lock(1);
        due(x.least(1, 1), 1);
        due(x.least(1, 4), 2);
        due(x.least(2, 4), 2);
        due(x.least(2, 2), 2);
        promise = 33;
        due(x.culprit(1), 0);
        due(x.culprit(0), -1);
        due(x.culprit(4), -2);
        // 0, 0 comes to 1, 0 and 0, 1 and merges to 1, 1: rule 0 holds there, 1 and 2 do not.
        x = of("base top 1 law 0 odds 0;cell max;cell max;rule most 0 1;rule sum 0 1 1;rule sum 1 0 1;"
                + "op more 0 1;op more 1 1;");
        due(x.culprit(1), 1);
        x.drops(1);
        due(x.culprit(1), 2);
        x.drops(2);
        due(x.culprit(1), -1);
        x.anew();
        promise = 34;
        due(x.hits(0, 1), 0);
        due(x.hits(1, 1), 1);
        due(x.hits(2, 1), 1);
        due(x.hits(2, 0), 0);
        due(x.hits(3, 1), -2);
        due(x.hits(0, 4), -2);
        due(of(EXAMPLE).hits(0, 1), 3);
        due(of(EXAMPLE).hits(1, 1), 1);
        promise = 35;
        due(x.worst(1), 1);
        due(x.worst(0), -1);
        due(x.worst(4), -2);
        x.drops(1);
        due(x.hits(1, 1), 0);
        due(x.worst(1), 2);
        due(of(EMPTY).worst(1), -1);
    }

    private static void theRules() {
        promise = 36;
        MergeJudge x = of("base top 2 law 0 odds 0;cell max;cell min;cell add;rule most 0 1;rule least 1 1;"
                + "rule most 2 1;rule sum 0 1 4;rule if 0 1 0 1;");
        due(x.known(0), 1);
        due(x.known(1), 1);
        due(x.known(2), 0);
        due(x.known(3), 0);
        due(x.known(4), 0);
        due(x.known(5), -2);
        due(x.known(-1), -2);
        x.rate(2, 3);
        due(x.known(2), 1);
        x.rate(0, 2);
        due(x.known(0), 0);
        promise = 37;
        x = of(EXAMPLE);
        due(x.alone(0, 1), 0);
        due(x.alone(1, 1), 0);
        due(x.alone(0, 0), 1);
        due(x.alone(2, 0), -2);
        due(x.alone(0, 4), -2);
        x = of("base top 1 law 0 odds 0;cell max;cell max;rule most 0 0;rule sum 0 1 1;op more 0 1;op more 1 1;");
        due(x.alone(0, 3), 1);
        due(x.alone(1, 1), 0);
        due(x.safe(3), 1);
        x.drops(1);
        due(x.alone(1, 1), 0);
        x.lock(0);
        x.lock(1);
        due(x.alone(1, 3), 1);
        x.anew();
        promise = 38;
        due(x.fine(1), 1);
        due(x.fine(0), 3);
        x.drops(0);
        due(x.fine(1), 1);
        due(x.fine(4), -2);
        due(of(EMPTY).fine(1), 0);
        due(new MergeJudge().fine(1), -2);
    }

    private static void theLocks() {
        MergeJudge x = of(EXAMPLE);
        promise = 39;
        due(x.fewest(1), 1);
        due(x.fewest(0), 0);
        due(x.fewest(4), -2);
        due(of(COUNTER).fewest(1), 2);
        due(new MergeJudge().fewest(0), -2);
        promise = 40;
        due(x.locks(1), 2);
        due(x.locks(0), 0);
        due(x.locks(-1), -2);
        due(of(COUNTER).locks(2), 3);
        promise = 41;
        due(x.needed(1), 2);
        due(x.needed(0), 0);
        due(x.needed(4), -2);
        due(of(COUNTER).needed(1), 3);
        x.lock(0);
        due(x.fewest(1), 1);
        due(x.locks(1), 2);
        due(x.needed(1), 2);
        // From 0, 0 to 1, 0 and 0, 1: with one OP LOCKED the other one's side is free still, so both must be.
        x = of("base top 1 law 0 odds 0;cell max;cell max;rule sum 0 1 1;op more 0 1;op more 1 1;");
        promise = 39;
        due(x.fewest(1), 2);
        promise = 41;
        due(x.needed(1), 3);
        promise = 39;
        // From 0, 0 only both OPS come to 1, 1, and with itself it merges to 0, 1: either may be LOCKED.
        x = of("base top 1 law 3 odds 0;cell late;cell min;rule order 1 0;op more 1 1;op more 0 1;");
        due(x.all(2), 1);
        due(x.fewest(2), 1);
        promise = 40;
        due(x.locks(2), 1);
        promise = 41;
        due(x.needed(2), 0);
        promise = 39;
        // Even the base alone breaks with what an asked-for move comes to: 1, 0 and 0, 1 merge to 1, 1.
        x = of("base top 1 law 0 odds 0;cell max;cell max;rule sum 0 1 1;op move 0 1 1;");
        due(x.fewest(1), -1);
        due(x.fewest(0), 0);
        promise = 40;
        due(x.locks(1), -1);
        promise = 41;
        due(x.needed(1), 1);
        due(of(EMPTY).needed(1), 0);
    }

    private static void theStatesAgain() {
        MergeJudge x = of(ALL_KINDS);
        promise = 42;
        due(x.weight(27), 6);
        due(x.weight(63), 9);
        due(x.weight(0), 0);
        due(x.weight(64), -2);
        due(x.weight(-1), -2);
        due(of(EMPTY).weight(0), 0);
        promise = 49;
        x = of(EXAMPLE);
        due(x.nearest(6), 0);
        due(x.nearest(8), 2);
        due(x.nearest(4), 4);
        due(x.nearest(9), -2);
        due(of("base top 1 law 0 odds 0;cell max;rule most 0 0;rule least 0 1;").nearest(0), -1);
        promise = 50;
        due(x.hard(), 0);
        x.drops(0);
        due(x.hard(), 0);
        due(of("base top 1 law 0 odds 0;cell max;rule most 0 1;rule most 0 1;").hard(), 0);
        due(of("base top 1 law 0 odds 0;cell max;rule most 0 1;rule least 0 1;rule most 0 0;").hard(), 1);
        due(of(EMPTY).hard(), -1);
        due(new MergeJudge().hard(), -2);
        promise = 51;
        x = of(EXAMPLE);
        due(x.spare(1), 1);
        due(x.spare(0), 0);
        due(x.spare(2), -2);
        x.drops(0);
        due(x.spare(0), 1);
        due(x.spare(1), 0);
        due(x.dropped(), 1);
        due(x.valids(), 8);
        promise = 52;
        x = of(EXAMPLE);
        due(x.room(0), 7);
        due(x.room(1), 3);
        due(x.room(2), -2);
        due(x.room(-1), -2);
        x.drops(0);
        due(x.room(1), 7);
        due(of("base top 1 law 0 odds 0;cell max;rule most 0 0;rule least 0 1;").room(0), 0);
    }

    private static void theCures() {
        MergeJudge x = of(EXAMPLE);
        promise = 54;
        due(x.blame(), 0);
        due(x.all(1), 3);
        x.drops(0);
        due(x.blame(), 1);
        x.drops(1);
        due(x.blame(), -1);
        due(of(EMPTY).blame(), -1);
        due(of("base top 1 law 0 odds 0;cell max;cell max;rule sum 0 1 1;rule sum 1 0 1;op more 0 1;op more 1 1;")
                .blame(), -1);
        due(new MergeJudge().blame(), -2);
        promise = 55;
        x = of(EXAMPLE);
        due(x.cure(), 10);
        due(x.all(1), 3);
        due(x.cell(1), 2);
        due(of(COUNTER).cure(), 0);
        due(of(EMPTY).cure(), -1);
        due(new MergeJudge().cure(), -2);
        // Cell 1 by the lesser helps as cell 2 does: the least of them.
        x = of("base top 1 law 0 odds 0;cell min;cell max;cell max;rule sum 1 2 1;op more 1 1;op more 2 1;");
        due(x.all(1), 2);
        due(x.cure(), 11);
        due(x.merge(0, 1, 0), 0);
        promise = 59;
        x = of(LATE);
        // From 0, 1 to 1, 0 and 2, 1 (see firstSides): the second's and the greater value of cell 0 are 2.
        due(x.by(0), 0);
        due(x.by(1), 1);
        due(x.by(2), 1);
        due(x.by(3), 0);
        due(x.by(4), -2);
        due(x.by(-1), -2);
        due(x.merge(3, 1, 5), 1);
        due(x.count(1), 0);
        due(new MergeJudge().by(0), -2);
        promise = 60;
        due(of(EXAMPLE).law(), 0);
        due(new MergeJudge().law(), -2);
        x = of(LATE.replace("law 0", "law 1"));
        due(x.all(1), 1);
        due(x.law(), 0);
        due(x.count(1), 1);
        due(x.all(1), 1);
        // From 2, 0 to 0, 0 and 1, 1: only the first's law makes 0, 1 of them.
        x = of("base top 2 law 0 odds 0;cell late;cell late;rule if 1 1 0 1;op set 0 0;op move 0 1 1;");
        due(x.by(0), 1);
        due(x.by(1), 0);
        due(x.law(), 1);
        due(x.all(1), 1);
    }

    private static void theSeen() {
        promise = 56;
        MergeJudge x = of(EXAMPLE);
        due(x.fits(0), -6);
        due(x.fits(4), -2);
        due(x.fits(-1), -2);
        x.row(0, 0, 0);
        due(x.fits(0), 6);
        x.row(0, 0, 4);
        due(x.fits(0), -2);
        x.row(0, 3, 3);
        x.write(0, 0, 3);
        x.write(0, 1, 3);
        x.write(0, 2, 6);
        // add: 3 and 3 come to 6 from 0, 1, 2, whose cell 1 is 0; from 3 on they come to 3.
        due(x.fits(0), 3);
        x.write(0, 2, 9);
        due(x.fits(0), -2);
        x.write(0, 2, 4294967302L);
        due(x.fits(0), -2);
        x.write(0, 2, -1);
        due(x.fits(0), -2);
        promise = 57;
        x = of("base top 3 law 1 odds 0;cell late;rule least 0 1;");
        x.row(1, 1, 6);
        // 0 and 2 come to 2 by the second's law: from 0 (not VALID), 1, 3; and from 2 to 0.
        x.write(1, 1, 2);
        x.write(1, 2, 2);
        x.write(1, 3, 3);
        x.write(1, 4, 3);
        x.write(1, 5, 3);
        due(x.which(1), 1);
        due(x.fits(1), 2);
        due(x.laws(1), 6);
        x.write(1, 3, 1);
        x.write(1, 4, 3);
        x.write(1, 5, 1);
        // 1 and 3 come to 1 by the second's law only from 3.
        due(x.which(1), 3);
        due(x.fits(1), 1);
        x.write(1, 5, 2);
        due(x.which(1), -1);
        due(x.fits(1), 0);
        due(x.laws(1), 0);
        due(x.which(0), -6);
        due(x.which(4), -2);
        due(x.which(-1), -2);
        due(new MergeJudge().which(0), -2);
        promise = 58;
        x = of("base top 3 law 0 odds 0;cell late;rule most 0 1;");
        x.row(2, 2, 3);
        x.write(2, 0, 2);
        x.write(2, 1, 3);
        x.write(2, 2, 2);
        due(x.laws(2), 1);
        x.write(2, 2, 3);
        due(x.laws(2), 6);
        x.write(2, 2, 1);
        due(x.laws(2), 8);
        due(x.which(2), -1);
        due(x.merge(1, 2, 3), 2);
        due(x.laws(3), -6);
        due(x.laws(4), -2);
        x.write(2, 2, 4);
        due(x.laws(2), -2);
        x.base();
        due(x.laws(2), -2);
        due(x.laws(3), -2);
    }

    private static void theShares() {
        MergeJudge x = of(EXAMPLE);
        promise = 61;
        due(x.worth(3), 3);
        due(x.worth(0), 0);
        due(x.worth(1), 3);
        due(x.worth(2), 2);
        due(x.worth(4), -2);
        due(x.worth(-1), -2);
        x.drops(0);
        due(x.worth(3), 2);
        due(x.worth(1), 0);
        due(x.dropped(), 1);
        due(of(EMPTY).worth(0), 0);
        due(of(EMPTY).worth(1), -2);
        due(new MergeJudge().worth(0), -2);
        promise = 62;
        x = of(EXAMPLE);
        // In both orders rule 0 has 3 and 3 - 2, the mean 2; rule 1 has 2 and 3 - 3, the mean 1.
        due(x.share(0, 0), 2);
        due(x.share(0, 1), 1);
        due(x.share(1, 0), 1);
        due(x.share(1, 1), 1);
        due(x.share(2, 0), -1000000);
        due(x.share(-1, 0), -1000000);
        due(x.share(0, 2), -1000000);
        due(x.share(0, -1), -1000000);
        due(new MergeJudge().share(0, 0), -1000000);
        x.drops(0);
        due(x.share(0, 0), 0);
        due(x.share(0, 1), 1);
        due(x.share(1, 0), 2);
        // Worth 0, 0 (cell 0 at most 0), 1 (a sum), 0 (both): 0 - 1 and 0 - 0 for the first, 1 and 0 for the second.
        x = of("base top 1 law 0 odds 0;cell max;cell max;rule most 0 0;rule sum 0 1 1;op more 0 1;op more 1 1;");
        due(x.share(0, 0), -1);
        due(x.share(0, 1), 2);
        due(x.share(1, 0), 1);
        due(x.share(1, 1), 2);
    }

    private static void theGame() {
        MergeJudge x = of(COUNTER);
        promise = 64;
        due(x.gets(0, 1, 0, 0), -1);
        due(x.gets(0, 1, 1, 0), -2);
        due(x.gets(0, 1, 0, 1), 0);
        due(x.gets(0, 1, 1, 1), 0);
        due(x.gets(1, 0, 0, 0), -2);
        due(x.gets(1, 0, 1, 0), -3);
        due(x.gets(1, 0, 0, 1), -1);
        due(x.gets(1, 0, 1, 1), -1);
        due(x.gets(0, 0, 0, 0), -1000000);
        due(x.gets(0, 2, 0, 0), -1000000);
        due(x.gets(-1, 0, 0, 0), -1000000);
        due(x.gets(0, 1, 2, 0), -1000000);
        due(x.gets(0, 1, 0, -1), -1000000);
        due(x.gets(0, 1, -1, 0), -1000000);
        due(x.gets(0, 1, 0, 2), -1000000);
        due(new MergeJudge().gets(0, 1, 0, 0), -1000000);
        promise = 63;
        due(x.rests(0, 1), 9);
        due(x.rests(1, 0), 9);
        due(of(EXAMPLE).rests(0, 1), 4);
        due(of(EXAMPLE).rests(1, 0), 2);
        due(x.rests(1, 1), -2);
        due(x.rests(0, 2), -2);
        due(x.rests(-1, 0), -2);
        due(new MergeJudge().rests(0, 1), -2);
        promise = 64;
        // LOCKED by an act, too, but not by a choice: fewer BREAKS, and not 2 less.
        x.lock(0);
        due(x.gets(0, 1, 0, 0), 0);
        due(x.gets(0, 1, 1, 0), -2);
        due(x.gets(0, 1, 0, 1), 2);
        due(x.locked(), 1);
        promise = 63;
        due(x.rests(0, 1), 5);
    }

    private static void theChance() {
        MergeJudge x = of(COUNTER);
        promise = 65;
        due(x.chance(0), 3);
        due(x.chance(1), 10);
        due(x.chance(2), -2);
        due(x.chance(-1), -2);
        due(new MergeJudge().chance(0), -2);
        due(of(EXAMPLE).chance(0), 1);
        due(of(EXAMPLE).chance(1), 4);
        due(of(COUNTER.replace("odds 3", "odds 0")).chance(0), 0);
        due(of(COUNTER.replace("odds 3", "odds 0")).chance(1), 1);
        due(of(COUNTER.replace("odds 3", "odds 10")).chance(0), 1);
        due(of(COUNTER.replace("odds 3", "odds 10")).chance(1), 1);
        due(of(COUNTER.replace("odds 3", "odds 4")).chance(1), 5);
        x.drops(0);
        due(x.chance(0), 1);
        due(x.chance(1), 1);
        x.undo();
        promise = 66;
        due(x.mean(0), 33);
        due(x.mean(1), 10);
        due(x.mean(2), -2);
        due(new MergeJudge().mean(0), -2);
        due(of(EXAMPLE).mean(0), 29);
        due(of(EXAMPLE).mean(1), 4);
        due(of(COUNTER.replace("odds 3", "odds 0")).mean(0), 3);
        due(of(COUNTER.replace("odds 3", "odds 5")).mean(1), 2);
        due(of(EMPTY).mean(0), 1);
        due(of("base top 1 law 0 odds 0;cell max;rule most 0 0;rule least 0 1;").mean(0), 0);
        due(of("base top 1 law 0 odds 0;cell max;rule most 0 0;rule least 0 1;").mean(1), 1);
    }

    private static void theActs() {
        MergeJudge x = of(COUNTER);
        promise = 67;
        due(x.lock(1), 2);
        due(x.lock(1), 2);
        due(x.count(6), 2);
        due(x.lock(0), 0);
        due(x.lock(2), -2);
        due(x.lock(-1), -2);
        due(x.count(6), 3);
        due(new MergeJudge().lock(0), -2);
        promise = 68;
        due(x.frees(0), 2);
        due(x.count(6), 4);
        due(x.frees(0), 2);
        due(x.count(6), 4);
        due(x.locked(), 2);
        due(x.frees(2), -2);
        due(x.frees(-1), -2);
        promise = 69;
        due(x.drops(0), 0);
        due(x.valids(), 4);
        due(x.drops(0), 0);
        due(x.count(6), 6);
        due(x.drops(1), -2);
        due(x.drops(-1), -2);
        due(x.dropped(), 1);
        promise = 70;
        due(x.undo(), 5);
        due(x.dropped(), 1);
        due(x.undo(), 4);
        due(x.dropped(), 0);
        due(x.valids(), 3);
        due(x.undo(), 3);
        due(x.locked(), 3);
        due(x.undo(), 2);
        due(x.locked(), 2);
        due(x.undo(), 1);
        due(x.locked(), 2);
        due(x.undo(), 0);
        due(x.locked(), 0);
        due(x.undo(), -5);
        due(new MergeJudge().undo(), -2);
        promise = 71;
        due(x.anew(), 0);
        x.lock(0);
        x.drops(0);
        x.frees(0);
        due(x.anew(), 3);
        due(x.locked(), 0);
        due(x.dropped(), 0);
        due(x.all(1), 3);
        due(x.anew(), 0);
        due(new MergeJudge().anew(), -2);
        promise = 67;
        for (int i = 0; i < 20; i++) {
            due(x.lock(0), 2);
        }
        due(x.lock(0), -5);
        due(x.lock(2), -2);
        promise = 68;
        due(x.frees(0), -5);
        due(x.frees(2), -2);
        promise = 69;
        due(x.drops(0), -5);
        due(x.drops(1), -2);
        due(x.count(6), 20);
        due(x.undo(), 19);
        due(x.drops(0), 0);
        due(x.count(6), 20);
        promise = 74;
        x = of(COUNTER);
        due(x.rate(0, 0), 2);
        due(x.cell(0), 0);
        due(x.all(1), 0);
        due(x.rate(0, 0), 0);
        due(x.rate(0, 3), 0);
        due(x.rate(1, 0), -2);
        due(x.rate(0, 4), -2);
        due(x.rate(0, -1), -2);
        x.lock(0);
        due(x.rate(0, 2), -5);
        due(x.rate(0, 4), -2);
        due(x.cell(0), 3);
        x.anew();
        due(x.rate(0, 2), 3);
        due(x.all(1), 3);
        due(new MergeJudge().rate(0, 0), -2);
        promise = 75;
        x = of(EXAMPLE);
        x.lock(0);
        x.feed(0, 0, 0, 0, 0);
        x.row(3, 0, 0);
        int[] counts = {2, 0, 5, 2, 2, 2, 1, 7, 20, 1, -1};
        for (int what = 0; what <= 10; what++) {
            due(x.count(what), counts[what]);
        }
        due(x.count(-1), -1);
        due(x.count(MIN), -1);
        due(of(EMPTY).count(1), 3);
        for (int what = 0; what <= 9; what++) {
            due(new MergeJudge().count(what), 0);
        }
    }

    private static void theAudits() {
        MergeJudge x = of(EXAMPLE);
        promise = 72;
        // Draws from 0: 0, 8; from 1: 8, 8; from 5: 5, 7; from 7: 4, 6; from 2,000,000,000: 4, 3 (odds are 5).
        due(x.drawn(0, 0), 1);
        due(x.drawn(1, 0), 0);
        due(x.drawn(5, 0), 0);
        due(x.drawn(7, 0), 1);
        due(x.drawn(2000000000, 0), 3);
        due(x.drawn(0, 1), 2);
        due(x.drawn(1, 1), 3);
        due(x.drawn(2000000000, 1), 0);
        due(x.drawn(2000000001, 0), -2);
        due(x.drawn(-1, 0), -2);
        due(x.drawn(0, 2), -2);
        due(x.drawn(0, -1), -2);
        due(new MergeJudge().drawn(0, 0), -2);
        due(x.dropped(), 0);
        x.drops(1);
        due(x.drawn(0, 0), 1);
        due(x.drawn(0, 1), 0);
        promise = 73;
        due(x.luck(0, 1), 1);
        due(x.luck(1, 1), 0);
        due(x.luck(0, 2), 1);
        due(x.luck(0, 0), -2);
        due(x.luck(0, 21), -2);
        due(x.luck(-1, 1), -2);
        due(x.luck(2000000001, 1), -2);
        due(x.luck(2000000000, 20) >= 0 ? 1 : 0, 1);
        due(new MergeJudge().luck(0, 1), -2);
        int safe = 0;
        for (int seed = 100; seed < 120; seed++) {
            safe += x.drawn(seed, 1) == 0 ? 1 : 0;
        }
        due(x.luck(100, 20), safe);
    }

    private static void theImages() {
        MergeJudge x = of(EXAMPLE);
        promise = 76;
        x.lock(1);
        x.drops(0);
        due(x.image(2), 0);
        due(x.image(3), -2);
        due(x.image(-1), -2);
        due(new MergeJudge().image(0), 0);
        promise = 77;
        due(x.back(0), -6);
        due(x.back(3), -2);
        due(x.back(-1), -2);
        x.anew();
        x.rate(0, 1);
        tell(x, COUNTER);
        due(x.states(), 4);
        due(x.back(2), 0);
        due(x.states(), 9);
        due(x.cell(0), 0);
        due(x.locked(), 2);
        due(x.dropped(), 1);
        due(x.count(6), 2);
        due(x.all(1), 1);
        due(x.undo(), 1);
        due(x.dropped(), 0);
        due(x.undo(), 0);
        due(x.back(2), 0);
        due(x.count(6), 2);
        due(x.back(0), -6);
        MergeJudge y = new MergeJudge();
        y.image(0);
        tell(y, EXAMPLE);
        due(y.image(1), 0);
        due(y.back(0), 0);
        due(y.states(), -2);
        due(y.count(4), 0);
        due(y.back(1), 0);
        due(y.states(), 9);
        y.rate(0, 3);
        y.image(0);
        due(y.back(1), 0);
        due(y.cell(0), 0);
        due(y.back(0), 0);
        due(y.cell(0), 3);
    }

    private static void theSlots() {
        MergeJudge x = of("base top 3 law 0 odds 0;cell max;");
        promise = 78;
        due(x.row(0, 0, 3), 0);
        due(x.row(3, 3, 60), 0);
        due(x.row(0, 0, 61), -2);
        due(x.row(4, 0, 1), -2);
        due(x.row(-1, 0, 1), -2);
        due(x.row(0, 4, 1), -2);
        due(x.row(0, -1, 1), -2);
        due(x.row(0, 0, -1), -3);
        due(x.row(0, 4, -1), -2);
        due(x.row(1, 0, MIN), -3);
        due(x.count(9), 2);
        // 0 and 0 come to 0 by the greater, from any base.
        due(x.fits(0), 4);
        promise = 79;
        due(x.write(0, 2, 1), 0);
        due(x.fits(0), 0);
        promise = 78;
        due(x.row(0, 0, -1), -3);
        due(x.fits(0), 0);
        due(x.row(0, 1, 3), 0);
        due(x.fits(0), 4);
        promise = 79;
        due(x.write(0, 3, 0), -7);
        due(x.write(0, -1, 0), -7);
        due(x.write(0, MAX, 0), -7);
        due(x.write(1, 0, 0), -6);
        due(x.write(1, -1, 0), -6);
        due(x.write(4, 0, 0), -2);
        due(x.write(-1, 0, 0), -2);
        long[] wider = {256, 65536, 4294967296L, 0};
        for (int width = 0; width < 4; width++) {
            x.row(2, width, 3);
            x.write(2, 0, 3 + wider[width]);
            x.write(2, 2, 3 - wider[width]);
            due(x.fits(2), 4);
            x.write(2, 0, 1 + (width == 0 ? 128 : wider[width - 1]));
            due(x.fits(2), -2);
        }
        promise = 80;
        x = of("base top 3 law 0 odds 0;cell max;");
        due(x.paste(0, 0, 1, 0, 0), -6);
        x.row(0, 0, 6);
        due(x.paste(0, 0, 1, 0, 0), -6);
        due(x.paste(1, 0, 0, 0, 0), -6);
        due(x.paste(4, 0, 0, 0, 0), -2);
        due(x.paste(0, 0, -1, 0, 0), -2);
        due(x.paste(1, 0, 4, 0, 0), -2);
        x.row(1, 1, 3);
        due(x.paste(0, 0, 1, 0, 0), -8);
        due(x.paste(0, -1, 1, 0, 0), -8);
        x.row(1, 0, 3);
        int[] numbers = {1, 2, 2, 3, 0, 3};
        for (int i = 0; i < 6; i++) {
            x.write(0, i, numbers[i]);
        }
        due(x.paste(0, 0, 1, 0, 3), 0);
        due(x.fits(1), 4);
        due(x.paste(0, 0, 1, 0, 4), -7);
        due(x.paste(0, 4, 1, 0, 3), -7);
        due(x.paste(0, 0, 1, 1, 3), -7);
        due(x.paste(0, -1, 1, 0, 1), -7);
        due(x.paste(0, 0, 1, -1, 1), -7);
        due(x.paste(0, 0, 1, 0, -1), -7);
        due(x.paste(0, 7, 1, 0, 0), -7);
        due(x.paste(0, 0, 1, 4, 0), -7);
        due(x.paste(0, 6, 1, 3, 0), 0);
        due(x.paste(0, MAX, 1, 0, MAX), -7);
        due(x.paste(0, 1, 1, 1, MAX), -7);
        due(x.fits(1), 4);
        // Its own row, overlapping: 1 2 2 3 0 3 becomes 1 1 2 2 3 0, not 1 1 1 1 1 1.
        due(x.paste(0, 0, 0, 1, 5), 0);
        due(x.fits(0), 0);
        due(x.paste(0, 0, 1, 0, 3), 0);
        due(x.fits(1), 0);
        due(x.paste(0, 1, 1, 0, 3), 0);
        due(x.fits(1), 4);
        due(x.paste(0, 3, 1, 0, 2), 0);
        due(x.write(1, 2, 3), 0);
        due(x.fits(1), 4);
    }
}
