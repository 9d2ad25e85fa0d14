/** Promises 23 to 41, 43 to 45 and 53 to 55: what is REACHED, BREAKS, RULES by themselves, LOCKS, cures. */
final class BreakSentences extends Sentences {
    /** Two cells, one OP each; what is REACHED is counted by steps. */
    private static final String GRID = "base top 3 law 0 odds 0;cell add;cell add;rule most 1 2;op more 0 1;op more 0 2;"
            + "op more 1 1;";
    /** From 2, 0 in three steps to 0, 2: with 1, 0 it merges, by the first's law, to 1, 2. */
    private static final String THREE_STEPS = "base top 2 law 0 odds 0;cell late;cell max;rule sum 0 1 2;op set 1 2;"
            + "op less 0 1;";
    /** From 1, 0 by a move to 0, 1, and the base itself: 1, 1. No LOCK helps. */
    private static final String HELPLESS = "base top 1 law 0 odds 0;cell max;cell max;rule sum 0 1 1;op move 0 1 1;";
    /** From 0, 0 to 1, 0 and 0, 1; with the second rule alone it is not SAFE. */
    private static final String EITHER = "base top 1 law 0 odds 0;cell max;cell max;rule sum 0 1 1;op more 0 1;op more 1 1;";
    /** Rules 0 and 1 are broken by what rule 2 lets pass. */
    private static final String TRIVIAL_LAST = "base top 1 law 0 odds 0;cell max;cell max;rule sum 0 1 1;rule sum 1 0 1;"
            + "rule most 0 1;op more 0 1;op more 1 1;";
    /** VALID are 0, 2, 3; from 2 the sides 0 and 3 merge to 1. */
    private static final String HOLE = "base top 3 law 0 odds 0;cell add;rule if 0 1 0 2;op less 0 2;op more 0 1;";
    /** VALID are 1, 2, 3; from 2 the sides 1, 1 merge to 0, from 3 in two steps 1, 1 and 1, 2. */
    private static final String DOWN = "base top 3 law 0 odds 0;cell add;rule least 0 1;op less 0 1;";
    /** As many CELLS, OPS and STATES as can be, with many BREAKS. */
    private static final String BUSY = "base top 3 law 2 odds 0;cell add;cell add;cell add;rule sum 0 1 5;rule sum 1 2 5;"
            + "rule sum 0 2 5;op more 0 1;op more 1 1;op more 2 1;op more 0 2;op more 1 2;";

    /** The last OP's side breaks with itself. */
    private static final String BREAKS_BY_LAST = "base top 2 law 0 odds 0;cell max;cell add;rule most 1 1;op more 0 1;"
            + "op set 0 2;op more 1 1;";

    static void ask() {
        reach();
        far();
        freely();
        bad();
        pairs();
        bound();
        least();
        culprit();
        hits();
        known();
        alone();
        locks();
        needed();
        bare();
        calm();
        asked();
        blame();
        cure();
    }

    private static void reach() {
        says("23", "How many STATES are REACHED (IV) from a VALID BASE STATE in d.");
        MergeJudge x = of(GRID);
        int[] fromNone = {1, 4, 8, 11};
        for (int d = 0; d <= 3; d++) {
            due(x.reach(0, d), fromNone[d]);
        }
        due(x.reach(11, 3), 1);
        x.lock(0);
        due(x.reach(0, 1), 4);
        due(of(EMPTY).reach(0, 3), 1);
        due(of(FULL).reach(63, 1), 3);
        // Two to a step in cells 0 and 1, one in cell 2: by many ways, 15 with a 0 there, 11 with 1, 5 with 2, 1 with 3.
        due(of(BUSY).reach(0, 3), 32);
        says("23", "NONE: it is not VALID;");
        for (int d = 0; d <= 3; d++) {
            due(x.reach(12, d), -1);
            due(of(NO_VALID).reach(0, d), -1);
        }
        says("23", "-2: there are none such, no BASE.");
        beyond(16, -2, base -> of(GRID).reach(base, 0));
        beyond(4, -2, d -> of(GRID).reach(0, d));
        beyond(4, -2, d -> of(GRID).reach(12, d));
        beyond(64, -2, base -> of(FULL).reach(base, 3));
        beyond(0, -2, d -> none().reach(0, d));
    }

    private static void far() {
        says("24", "By how few OPS a STATE is REACHED in 3.");
        MergeJudge x = of(GRID);
        int[] far = {0, 1, 1, 2, 1, 2, 2, 3, 2, 3, 3};
        for (int state = 0; state < far.length; state++) {
            due(x.far(0, state), far[state]);
        }
        x.lock(0);
        due(x.far(0, 1), 1);
        due(of(EMPTY).far(0, 0), 0);
        due(of(FULL).far(63, 63), 0);
        due(of(FULL).far(63, 0), -1);
        due(of(FULL).far(3, 48), 1);
        says("24", "NONE: it is not;");
        due(x.far(0, 11), -1);
        due(x.far(0, 12), -1);
        due(x.far(1, 0), -1);
        due(x.far(12, 12), -1);
        due(x.far(12, 13), -1);
        due(of(NO_VALID).far(0, 0), -1);
        says("24", "-2: there are none such, no BASE.");
        beyond(16, -2, base -> of(GRID).far(base, 0));
        beyond(16, -2, state -> of(GRID).far(0, state));
        beyond(16, -2, state -> of(GRID).far(12, state));
        beyond(0, -2, state -> none().far(state, state));
        says("25", "The first of such a row of OPS, the least one of several.");
        MergeJudge y = of(GRID);
        int[][] steps = {{1, 0}, {2, 1}, {3, 0}, {4, 2}, {5, 0}, {6, 1}, {7, 0}, {8, 2}, {9, 0}, {10, 1}};
        for (int[] step : steps) {
            due(y.step(0, step[0]), step[1]);
        }
        y.lock(0);
        due(y.step(0, 3), 0);
        due(of("base top 3 law 0 odds 0;cell add;op more 0 2;op more 0 1;").step(0, 3), 0);
        due(of("base top 3 law 0 odds 0;cell add;op more 0 2;op more 0 1;op more 0 1;").step(0, 1), 1);
        due(of("base top 3 law 0 odds 0;cell add;op less 0 1;op less 0 1;op less 0 2;op more 0 1;op set 0 3;").step(0, 3), 4);
        // Op 0 comes only behind op 1.
        due(of("base top 3 law 0 odds 0;cell max;op less 0 1;op set 0 3;").step(0, 2), 1);
        says("25", "NONE: it needs none, is not REACHED;");
        due(y.step(0, 0), -1);
        due(y.step(5, 5), -1);
        due(y.step(0, 11), -1);
        due(y.step(0, 12), -1);
        due(y.step(1, 0), -1);
        due(y.step(12, 12), -1);
        due(y.step(12, 13), -1);
        due(of(EMPTY).step(0, 0), -1);
        // An OP that leaves the STATE as it is: it needs none.
        due(of("base top 1 law 0 odds 0;cell max;op set 0 0;").step(0, 0), -1);
        says("25", "-2 likewise.");
        beyond(16, -2, base -> of(GRID).step(base, 0));
        beyond(16, -2, state -> of(GRID).step(0, state));
        beyond(0, -2, state -> none().step(state, state));
    }

    private static void freely() {
        says("26", "How many STATES are REACHED from a VALID BASE STATE in d without LOCKED OPS.");
        MergeJudge x = of(COUNTER);
        int[][] free = {{1, 3, 3, 3}, {1, 2, 3, 3}, {1, 1, 1, 1}};
        for (int d = 0; d <= 3; d++) {
            due(x.freely(0, d), free[0][d]);
        }
        x.lock(1);
        for (int d = 0; d <= 3; d++) {
            due(x.freely(0, d), free[1][d]);
        }
        due(x.reach(0, 1), 3);
        x.lock(0);
        for (int d = 0; d <= 3; d++) {
            due(x.freely(0, d), free[2][d]);
        }
        MergeJudge y = of(FULL);
        for (int op = 0; op < 5; op++) {
            y.lock(op);
        }
        due(y.freely(63, 3), 1);
        due(of(EMPTY).freely(0, 3), 1);
        says("26", "NONE, -2 as reach().");
        due(x.freely(3, 0), -1);
        due(x.freely(3, 3), -1);
        beyond(4, -2, base -> of(COUNTER).freely(base, 0));
        beyond(4, -2, d -> of(COUNTER).freely(0, d));
        beyond(4, -2, d -> of(COUNTER).freely(3, d));
        beyond(0, -2, d -> none().freely(0, d));
    }

    private static void bad() {
        says("27", "BREAKS (IV) from a BASE STATE in d: how many (0: it is not VALID).");
        MergeJudge x = of(COUNTER);
        int[][] bad = {{0, 2, 2, 2}, {0, 1, 1, 1}, {0, 0, 0, 0}, {0, 0, 0, 0}};
        for (int base = 0; base < 4; base++) {
            for (int d = 0; d <= 3; d++) {
                due(x.bad(base, d), bad[base][d]);
            }
        }
        due(of(TWO_STEPS).bad(2, 1), 0);
        due(of(TWO_STEPS).bad(2, 2), 1);
        due(of(THREE_STEPS).bad(2, 2), 0);
        due(of(THREE_STEPS).bad(2, 3), 1);
        due(of(NO_VALID).bad(0, 3), 0);
        due(of(EMPTY).bad(0, 3), 0);
        says("27", "-2: there are none such, no BASE.");
        beyond(4, -2, base -> of(COUNTER).bad(base, 1));
        beyond(4, -2, d -> of(COUNTER).bad(0, d));
        beyond(4, -2, d -> of(COUNTER).bad(3, d));
        beyond(64, -2, base -> of(FULL).bad(base, 0));
        beyond(0, -2, d -> none().bad(0, d));
        says("28", "BREAKS in d in all.");
        int[] all = {0, 3, 3, 3};
        for (int d = 0; d <= 3; d++) {
            due(x.all(d), all[d]);
            due(of(EMPTY).all(d), 0);
            due(of(FULL).all(d), 0);
            due(of(NO_VALID).all(d), 0);
        }
        due(of(EXAMPLE).all(2), 7);
        x.lock(1);
        due(x.all(1), 2);
        due(x.all(2), 3);
        x.drops(0);
        due(x.all(3), 0);
        says("28", "-2: there is no such d, no BASE.");
        beyond(4, -2, x::all);
        beyond(4, -2, of(EMPTY)::all);
        beyond(0, -2, none()::all);
    }

    private static void pairs() {
        says("29", "How many unlike pairs of sides there are in them, whatever the BASE STATE.");
        MergeJudge x = of(COUNTER);
        int[] pairs = {0, 2, 2, 2};
        for (int d = 0; d <= 3; d++) {
            due(x.pairs(d), pairs[d]);
        }
        // From 0 the sides 1, 2 and 2, 2, from 1 the sides 2, 2 again.
        due(x.all(1), 3);
        due(of(EXAMPLE).pairs(1), 3);
        due(of(EXAMPLE).pairs(2), 5);
        due(of(EMPTY).pairs(3), 0);
        MergeJudge hole = of(HOLE);
        due(hole.pairs(1), 1);
        hole.drops(0);
        due(hole.pairs(1), 0);
        MergeJudge down = of(DOWN);
        due(down.pairs(2), 2);
        due(down.pairs(1), 1);
        x.drops(0);
        due(x.pairs(1), 0);
        says("29", "-2 likewise.");
        beyond(4, -2, x::pairs);
        beyond(0, -2, none()::pairs);
        says("30", "1 if it is SAFE in d, else 0.");
        MergeJudge y = of(COUNTER);
        due(y.safe(0), 1);
        for (int d = 1; d <= 3; d++) {
            due(y.safe(d), 0);
            due(of(EMPTY).safe(d), 1);
        }
        int[] three = {1, 1, 1, 0};
        int[] two = {1, 1, 0, 0};
        for (int d = 0; d <= 3; d++) {
            due(of(THREE_STEPS).safe(d), three[d]);
            due(of(TWO_STEPS).safe(d), two[d]);
        }
        y.lock(0);
        due(y.safe(1), 0);
        y.lock(1);
        due(y.safe(3), 1);
        says("30", "-2 likewise.");
        beyond(4, -2, y::safe);
        beyond(0, -2, none()::safe);
    }

    private static void bound() {
        says("31", "The greatest d (0 .. 3) in which it is SAFE.");
        due(of(COUNTER).bound(), 0);
        due(of(TWO_STEPS).bound(), 1);
        due(of(THREE_STEPS).bound(), 2);
        due(of(LADDER).bound(), 3);
        due(of(EMPTY).bound(), 3);
        due(of(NO_VALID).bound(), 3);
        MergeJudge x = of(COUNTER);
        x.lock(0);
        x.lock(1);
        due(x.bound(), 3);
        says("31", "NONE: in none;");
        // In 0 both sides are the BASE STATE, which they MERGE to: it is SAFE always, whatever the kind.
        for (String kind : new String[] {"max", "min", "add", "late"}) {
            due(of("base top 3 law 0 odds 0;cell " + kind + ";rule most 0 2;rule least 0 1;op more 0 1;op less 0 1;").safe(0), 1);
        }
        due(of(BUSY).bound(), 0);
        says("31", "-2: there is no BASE.");
        due(none().bound(), -2);
    }

    private static void least() {
        says("32", "The SMALLEST BREAK (V) in d, what 0: its BASE STATE, 1: the first, 2: the second side, 3: what they "
                + "MERGE to, 4: OPS of both sides.");
        leastOf(COUNTER, 1, 0, 1, 2, 3, 2);
        leastOf(COUNTER, 3, 0, 1, 2, 3, 2);
        leastOf(EXAMPLE, 1, 0, 3, 3, 6, 2);
        leastOf(TWO_STEPS, 2, 2, 1, 2, 3, 2);
        leastOf(TWO_STEPS, 3, 2, 1, 2, 3, 2);
        leastOf(THREE_STEPS, 3, 2, 1, 6, 7, 4);
        leastOf(HELPLESS, 1, 1, 1, 2, 3, 1);
        leastOf(HOLE, 1, 2, 0, 3, 1, 2);
        // From 1, 1 in three steps to 2, 2: twice that, it merges to 2, 1.
        leastOf("base top 2 law 3 odds 0;cell min;cell late;rule order 0 1;op move 0 1 1;op more 0 1;", 3, 4, 8, 8, 5, 6);
        // The greatest of 64 STATES, and the base that is next to it.
        leastOf("base top 3 law 0 odds 0;cell add;cell max;cell max;rule least 1 3;rule least 2 3;rule most 0 2;rule least 0 1;"
                + "op more 0 1;", 1, 61, 62, 62, 63, 2);
        says("32", "NONE: there is none;");
        for (int what = 0; what <= 4; what++) {
            due(of(COUNTER).least(0, what), -1);
            due(of(THREE_STEPS).least(2, what), -1);
            due(of(EMPTY).least(3, what), -1);
            due(of(NO_VALID).least(3, what), -1);
        }
        MergeJudge x = of(COUNTER);
        due(x.least(1, 0), 0);
        x.drops(0);
        due(x.least(1, 0), -1);
        says("32", "-2: there are none such, no BASE.");
        beyond(4, -2, d -> of(COUNTER).least(d, 0));
        beyond(5, -2, what -> of(COUNTER).least(1, what));
        beyond(5, -2, what -> of(COUNTER).least(0, what));
        beyond(0, -2, d -> none().least(d, 0));
    }

    private static void leastOf(String text, int d, int... least) {
        for (int what = 0; what <= 4; what++) {
            due(of(text).least(d, what), least[what]);
        }
    }

    private static void culprit() {
        String text = "base top 1 law 0 odds 0;cell max;cell max;rule most 0 1;rule sum 0 1 1;rule sum 1 0 1;"
                + "op more 0 1;op more 1 1;";
        says("33", "The first RULE that it breaks.");
        MergeJudge x = of(text);
        due(x.culprit(1), 1);
        due(x.culprit(3), 1);
        x.drops(1);
        due(x.culprit(1), 2);
        due(of(EXAMPLE).culprit(1), 0);
        due(of(COUNTER).culprit(2), 0);
        says("33", "NONE, -2 likewise.");
        due(x.culprit(0), -1);
        x.drops(2);
        due(x.culprit(1), -1);
        due(of(EMPTY).culprit(3), -1);
        beyond(4, -2, x::culprit);
        beyond(0, -2, none()::culprit);
    }

    private static void hits() {
        String text = "base top 1 law 0 odds 0;cell max;cell max;rule most 0 1;rule sum 0 1 1;rule sum 1 0 1;"
                + "op more 0 1;op more 1 1;";
        says("34", "How many BREAKS in d break a RULE (others, too, or not; a DROPPED one: 0).");
        MergeJudge x = of(EXAMPLE);
        due(x.hits(0, 0), 0);
        due(x.hits(0, 1), 3);
        due(x.hits(1, 1), 1);
        x.drops(0);
        due(x.hits(0, 1), 0);
        due(x.hits(1, 1), 2);
        MergeJudge y = of(text);
        due(y.hits(0, 1), 0);
        due(y.hits(1, 1), 1);
        due(y.hits(2, 1), 1);
        y.drops(1);
        due(y.hits(1, 1), 0);
        due(y.hits(2, 1), 1);
        due(of(FULL).hits(4, 3), 0);
        due(of(HOLE).hits(0, 1), 1);
        MergeJudge down = of(DOWN);
        due(down.hits(0, 2), 3);
        due(down.hits(0, 1), 1);
        // The last VALID STATE alone has a BREAK.
        due(of("base top 1 law 0 odds 0;cell max;cell max;rule sum 0 1 1;op move 1 0 1;").hits(0, 1), 1);
        due(of(NO_VALID).hits(0, 3), 0);
        says("34", "-2: there are none such, no BASE.");
        beyond(2, -2, rule -> of(EXAMPLE).hits(rule, 1));
        beyond(4, -2, d -> of(EXAMPLE).hits(0, d));
        beyond(5, -2, rule -> of(FULL).hits(rule, 0));
        beyond(0, -2, rule -> of(EMPTY).hits(rule, 0));
        beyond(0, -2, rule -> none().hits(rule, 0));
        says("35", "The RULE that most do, the first of several, if any.");
        MergeJudge z = of(text);
        due(z.worst(1), 1);
        due(z.worst(3), 1);
        z.drops(1);
        due(z.worst(1), 2);
        due(of(EXAMPLE).worst(1), 0);
        // A rule that is broken less stands first.
        due(of("base top 2 law 0 odds 5;cell max;cell add;rule sum 0 1 3;rule most 1 1;op more 0 1;op more 1 1;").worst(1), 1);
        says("35", "NONE: none;");
        due(z.worst(0), -1);
        z.drops(2);
        due(z.worst(1), -1);
        due(of(EMPTY).worst(1), -1);
        due(of(NO_VALID).worst(3), -1);
        says("35", "-2: there is no such d, no BASE.");
        beyond(4, -2, z::worst);
        beyond(4, -2, of(EMPTY)::worst);
        beyond(0, -2, none()::worst);
    }

    private static void known() {
        says("36", "1 if a RULE is KNOWN (VI), else 0.");
        MergeJudge x = of("base top 2 law 0 odds 0;cell max;cell min;cell add;rule most 0 1;rule least 1 1;"
                + "rule most 2 1;rule sum 0 1 4;rule if 0 1 0 1;");
        int[] known = {1, 1, 0, 0, 0};
        for (int rule = 0; rule < 5; rule++) {
            due(x.known(rule), known[rule]);
        }
        x.drops(0);
        due(x.known(0), 1);
        x.anew();
        x.rate(2, 3);
        due(x.known(2), 1);
        x.rate(0, 2);
        due(x.known(0), 0);
        says("36", "-2: there is none such.");
        beyond(5, -2, x::known);
        beyond(2, -2, of(EXAMPLE)::known);
        beyond(0, -2, of(EMPTY)::known);
        beyond(0, -2, none()::known);
    }

    private static void alone() {
        says("37", "1 if it would be SAFE in d, were this RULE alone there (others DROPPED; it not, whatever acts; "
                + "LOCKED as now), else 0.");
        MergeJudge x = of(SUMS);
        due(x.alone(0, 3), 1);
        due(x.alone(1, 0), 1);
        due(x.alone(1, 1), 0);
        due(x.safe(3), 1);
        x.drops(1);
        due(x.alone(1, 1), 0);
        x.drops(0);
        due(x.alone(1, 1), 0);
        due(x.dropped(), 3);
        x.lock(0);
        due(x.alone(1, 3), 0);
        x.lock(1);
        due(x.alone(1, 3), 1);
        due(of(EXAMPLE).alone(0, 1), 0);
        due(of(EXAMPLE).alone(1, 1), 0);
        due(of(TWO_STEPS).alone(0, 1), 1);
        due(of(TWO_STEPS).alone(0, 2), 0);
        due(of(TRIVIAL_LAST).alone(2, 3), 1);
        due(of(TRIVIAL_LAST).alone(0, 1), 0);
        says("37", "-2: there are none such.");
        beyond(2, -2, rule -> of(SUMS).alone(rule, 0));
        beyond(4, -2, d -> of(SUMS).alone(0, d));
        beyond(5, -2, rule -> of(FULL).alone(rule, 0));
        beyond(0, -2, rule -> of(EMPTY).alone(rule, 0));
        beyond(0, -2, rule -> none().alone(rule, 0));
        says("38", "RULES that so are SAFE in d, as bits.");
        MergeJudge y = of(SUMS);
        due(y.fine(0), 3);
        due(y.fine(1), 1);
        due(y.fine(3), 1);
        y.drops(0);
        due(y.fine(1), 1);
        y.drops(1);
        due(y.fine(1), 1);
        y.lock(0);
        y.lock(1);
        due(y.fine(1), 3);
        due(of(FULL).fine(3), 31);
        due(of(TRIVIAL_LAST).fine(3), 4);
        due(of(EMPTY).fine(3), 0);
        due(of(EXAMPLE).fine(1), 0);
        says("38", "-2: there is no such d, no BASE.");
        beyond(4, -2, y::fine);
        beyond(4, -2, of(EMPTY)::fine);
        beyond(0, -2, none()::fine);
    }

    private static void locks() {
        // From 0, 0 only both OPS come to 1, 1, and with itself it merges to 0, 1: either may be LOCKED.
        String oneOfTwo = "base top 1 law 3 odds 0;cell late;cell min;rule order 1 0;op more 1 1;op more 0 1;";
        says("39", "LOCKS: the fewest OPS to be LOCKED (in place of those that are) so that it is SAFE in d.");
        MergeJudge x = of(EXAMPLE);
        due(x.fewest(0), 0);
        due(x.fewest(1), 1);
        x.lock(0);
        due(x.fewest(1), 1);
        x.lock(1);
        due(x.fewest(1), 1);
        due(x.fewest(0), 0);
        due(x.locked(), 3);
        due(of(COUNTER).fewest(3), 2);
        due(of(EITHER).fewest(1), 2);
        due(of(oneOfTwo).fewest(2), 1);
        due(of(LADDER).fewest(3), 0);
        due(of(EMPTY).fewest(3), 0);
        due(of(NO_VALID).fewest(3), 0);
        for (int d = 0; d <= 3; d++) {
            MergeJudge full = of(FULL);
            due(full.fewest(d) + full.locks(d) + full.needed(d) + full.bare(d) + full.pairs(d), 0);
            due(full.hot(d) + full.worst(d) + full.culprit(d) + full.least(d, 0), -4);
        }
        due(of(BUSY).fewest(1), 5);
        due(of(HOLE).fewest(1), 2);
        says("39", "NONE: it is by none;");
        due(of(HELPLESS).fewest(1), -1);
        due(of(HELPLESS).fewest(3), -1);
        due(of(HELPLESS).fewest(0), 0);
        says("39", "-2: there is no such d, no BASE.");
        beyond(4, -2, of(COUNTER)::fewest);
        beyond(4, -2, of(EMPTY)::fewest);
        beyond(0, -2, none()::fewest);
        says("40", "The least set of so few, as bits.");
        due(of(EXAMPLE).locks(1), 2);
        due(of(EXAMPLE).locks(0), 0);
        due(of(COUNTER).locks(1), 3);
        due(of(oneOfTwo).locks(2), 1);
        due(of(BUSY).locks(1), 31);
        due(of(EMPTY).locks(3), 0);
        x = of(EXAMPLE);
        x.lock(0);
        due(x.locks(1), 2);
        due(x.locked(), 1);
        // Fewest goes ahead of least: 4 (one OP) and not 3 (two).
        due(of(BREAKS_BY_LAST).locks(1), 4);
        says("40", "NONE, -2 likewise.");
        due(of(HELPLESS).locks(1), -1);
        beyond(4, -2, of(COUNTER)::locks);
        beyond(0, -2, none()::locks);
    }

    private static void needed() {
        says("41", "OPS that are in each set (in place of those LOCKED) by which it is SAFE in d, as bits (all, if there is none).");
        due(of(EXAMPLE).needed(1), 2);
        due(of(EXAMPLE).needed(0), 0);
        due(of(COUNTER).needed(1), 3);
        due(of("base top 1 law 3 odds 0;cell late;cell min;rule order 1 0;op more 1 1;op more 0 1;").needed(2), 0);
        due(of(BREAKS_BY_LAST).needed(1), 4);
        due(of(BUSY).needed(1), 31);
        due(of(HELPLESS).needed(1), 1);
        due(of(HELPLESS + "op set 0 0;op set 1 0;").needed(1), 7);
        due(of(HELPLESS).needed(0), 0);
        due(of(LADDER).needed(3), 0);
        due(of(EMPTY).needed(1), 0);
        MergeJudge x = of(EXAMPLE);
        x.lock(0);
        x.lock(1);
        due(x.needed(1), 2);
        due(x.locked(), 3);
        says("41", "-2 likewise.");
        beyond(4, -2, of(COUNTER)::needed);
        beyond(0, -2, none()::needed);
    }

    private static void bare() {
        says("43", "How many BASE STATES have BREAKS in d.");
        due(of(COUNTER).bare(0), 0);
        due(of(COUNTER).bare(1), 2);
        due(of(COUNTER).bare(3), 2);
        due(of(EXAMPLE).bare(1), 3);
        due(of(THREE_STEPS).bare(2), 0);
        due(of(THREE_STEPS).bare(3), 1);
        due(of(EMPTY).bare(3), 0);
        due(of(NO_VALID).bare(3), 0);
        MergeJudge x = of(COUNTER);
        x.lock(0);
        due(x.bare(1), 1);
        says("43", "-2: there is no such d, no BASE.");
        beyond(4, -2, x::bare);
        beyond(0, -2, none()::bare);
    }

    private static void calm() {
        says("44", "The greatest d (0 .. 3) in which there is no BREAK from a BASE STATE.");
        MergeJudge x = of(COUNTER);
        due(x.calm(0), 0);
        due(x.calm(1), 0);
        due(x.calm(2), 3);
        due(of(TWO_STEPS).calm(2), 1);
        due(of(TWO_STEPS).calm(0), 3);
        due(of(THREE_STEPS).calm(2), 2);
        due(of(EMPTY).calm(0), 3);
        due(of(FULL).calm(63), 3);
        x.lock(0);
        due(x.calm(1), 3);
        says("44", "NONE: in none, it is not VALID;");
        due(x.calm(3), -1);
        due(of(NO_VALID).calm(0), -1);
        x.drops(0);
        due(x.calm(3), 3);
        says("44", "-2: there is none such, no BASE.");
        beyond(4, -2, x::calm);
        beyond(64, -2, of(FULL)::calm);
        beyond(0, -2, none()::calm);
        says("45", "The BASE STATE with most BREAKS in d, the least of several, if there are any.");
        due(of(COUNTER).hot(1), 0);
        due(of(EXAMPLE).hot(1), 0);
        due(of(THREE_STEPS).hot(3), 2);
        due(of("base top 3 law 0 odds 0;cell add;rule least 0 1;op less 0 1;").hot(1), 2);
        // From 3 there are more: its steps of one and of two break with one another.
        due(of("base top 3 law 0 odds 0;cell add;rule least 0 1;op less 0 1;op less 0 2;").hot(1), 3);
        says("45", "NONE: there are none;");
        due(of(COUNTER).hot(0), -1);
        due(of(THREE_STEPS).hot(2), -1);
        due(of(EMPTY).hot(3), -1);
        due(of(NO_VALID).hot(3), -1);
        says("45", "-2: there is no such d, no BASE.");
        beyond(4, -2, of(COUNTER)::hot);
        beyond(0, -2, none()::hot);
    }

    private static void asked() {
        says("53", "Pairs of sides (one twice, too) REACHED from a BASE STATE in d of which neither is without LOCKED OPS: "
                + "how many (0: it is not VALID).");
        MergeJudge x = of(COUNTER);
        due(x.asked(0, 3), 0);
        x.lock(1);
        due(x.asked(0, 0), 0);
        due(x.asked(0, 1), 1);
        due(x.asked(0, 2), 0);
        x.lock(0);
        due(x.asked(0, 1), 3);
        due(x.asked(0, 3), 3);
        due(x.asked(2, 3), 0);
        due(x.asked(3, 0), 0);
        due(x.asked(3, 3), 0);
        MergeJudge y = of(LADDER);
        y.lock(0);
        due(y.asked(0, 3), 6);
        due(of(NO_VALID).asked(0, 3), 0);
        due(of(EMPTY).asked(0, 3), 0);
        says("53", "-2: there are none such, no BASE.");
        beyond(4, -2, base -> of(COUNTER).asked(base, 0));
        beyond(4, -2, d -> of(COUNTER).asked(0, d));
        beyond(4, -2, d -> of(COUNTER).asked(3, d));
        beyond(0, -2, d -> none().asked(0, d));
    }

    private static void blame() {
        String twice = "base top 1 law 0 odds 0;cell max;cell max;rule sum 0 1 1;rule sum 1 0 1;op more 0 1;op more 1 1;";
        says("54", "The RULE that, DROPPED besides, leaves fewest BREAKS in 1, if fewer than now, the first of several.");
        MergeJudge x = of(EXAMPLE);
        due(x.blame(), 0);
        due(x.dropped(), 0);
        due(x.all(1), 3);
        x.drops(0);
        due(x.blame(), 1);
        due(of("base top 2 law 0 odds 5;cell max;cell add;rule sum 0 1 3;rule most 1 1;op more 0 1;op more 1 1;").blame(), 1);
        // Each of the last two leaves 3 of 4 BREAKS: the first of them.
        due(of("base top 2 law 0 odds 0;cell add;cell add;rule most 0 2;rule most 0 1;rule most 1 1;op more 0 1;op more 1 1;")
                .blame(), 1);
        // Without rule 0 there are 2 of 3 BREAKS left, without rule 1 but one.
        due(of("base top 2 law 0 odds 0;cell add;cell add;rule sum 1 0 3;rule order 0 1;op set 0 1;op less 1 2;").blame(), 1);
        MergeJudge y = of(twice);
        y.drops(0);
        due(y.blame(), 1);
        says("54", "NONE: none;");
        due(of(twice).blame(), -1);
        x.drops(1);
        due(x.blame(), -1);
        due(of(LADDER).blame(), -1);
        due(of(EMPTY).blame(), -1);
        // DROPPED, the rule would leave as many BREAKS or more.
        due(of(SUMS).blame(), -1);
        // In 2 there are BREAKS, in 1 none.
        due(of(TWO_STEPS).blame(), -1);
        says("54", "-2: there is no BASE.");
        due(none().blame(), -2);
    }

    private static void cure() {
        says("55", "The CELL that, merged by another kind, leaves fewest BREAKS in 1, if fewer than now: 10 times the CELL, "
                + "and the kind, the least of several.");
        MergeJudge x = of(EXAMPLE);
        due(x.cure(), 10);
        due(x.cell(1), 2);
        due(x.all(1), 3);
        due(of(COUNTER).cure(), 0);
        due(of(LATE.replace("law 0", "law 1")).cure(), 1);
        due(of("base top 1 law 0 odds 0;cell min;cell max;cell max;rule sum 1 2 1;op more 1 1;op more 2 1;").cure(), 11);
        due(of(EITHER).cure(), 1);
        // Of 12 BREAKS cell 0 by the greater leaves 9, cell 1 leaves 3.
        due(of("base top 3 law 0 odds 0;cell add;cell add;rule most 0 2;rule most 1 2;op more 0 1;op more 1 1;op more 1 2;")
                .cure(), 10);
        // Not by its own kind: no other one leaves fewer.
        due(of("base top 1 law 0 odds 0;cell max;rule least 0 1;op less 0 1;").cure(), -1);
        x.lock(1);
        due(x.cure(), -1);
        says("55", "NONE: none;");
        due(of(LADDER).cure(), -1);
        due(of(TWO_STEPS).cure(), -1);
        due(of(EMPTY).cure(), -1);
        due(of(NO_VALID).cure(), -1);
        says("55", "-2: there is no BASE.");
        due(none().cure(), -2);
    }
}
