/** Promises 9 to 22 and 46 to 52: STATES, what OPS do, MERGES. */
final class StateSentences extends Sentences {
    private static final String FREE = "base top 3 law 0 odds 0;cell max;cell max;";

    static void ask() {
        states();
        acts();
        valid();
        ops();
        commuting();
        merges();
        weights();
        open();
        clashes();
        nearest();
        hard();
        room();
    }

    private static void states() {
        says("9", "How many STATES there are.");
        int[][] sizes = {{1, 2, 4, 8}, {1, 3, 9, 27}, {1, 4, 16, 64}};
        for (int top = 1; top <= 3; top++) {
            for (int cells = 0; cells <= 3; cells++) {
                MergeJudge x = of("base top " + top + " law 0 odds 0;" + "cell max;".repeat(cells));
                due(x.states(), sizes[top - 1][cells]);
            }
        }
        due(of(NO_VALID).states(), 2);
        says("9", "-2: there is no BASE.");
        due(none().states(), -2);
        says("10", "The value of a CELL in a STATE.");
        MergeJudge x = of(FULL);
        due(x.value(0, 0), 0);
        due(x.value(63, 0), 3);
        due(x.value(63, 1), 3);
        due(x.value(63, 2), 3);
        due(x.value(48, 2), 3);
        due(x.value(48, 1), 0);
        due(x.value(12, 1), 3);
        due(x.value(12, 2), 0);
        due(of(EXAMPLE).value(5, 0), 2);
        due(of(EXAMPLE).value(5, 1), 1);
        due(of(NO_VALID).value(1, 0), 1);
        says("10", "-2: there are none such.");
        beyond(64, -2, state -> x.value(state, 0));
        beyond(3, -2, cell -> x.value(0, cell));
        beyond(9, -2, state -> of(EXAMPLE).value(state, 0));
        beyond(2, -2, cell -> of(EXAMPLE).value(0, cell));
        beyond(0, -2, cell -> of(EMPTY).value(0, cell));
        beyond(0, -2, state -> none().value(state, 0));
        says("11", "1 if a RULE (DROPPED or not) holds in a STATE, else 0.");
        MergeJudge y = of(EXAMPLE);
        int[] first = {1, 1, 1, 1, 1, 1, 0, 0, 0};
        int[] second = {1, 1, 1, 1, 1, 1, 1, 1, 0};
        for (int turn = 0; turn < 2; turn++) {
            for (int state = 0; state < 9; state++) {
                due(y.holds(0, state), first[state]);
                due(y.holds(1, state), second[state]);
            }
            y.drops(0);
            y.drops(1);
        }
        due(of("base top 3 law 0 odds 0;cell max;cell max;cell max;rule least 2 3;").holds(0, 63), 1);
        due(of("base top 3 law 0 odds 0;cell max;cell max;cell max;rule least 2 3;").holds(0, 47), 0);
        says("11", "-2: there are none such.");
        beyond(5, -2, rule -> x.holds(rule, 0));
        beyond(64, -2, state -> x.holds(0, state));
        beyond(2, -2, rule -> of(EXAMPLE).holds(rule, 0));
        beyond(9, -2, state -> of(EXAMPLE).holds(0, state));
        beyond(0, -2, rule -> of(EMPTY).holds(rule, 0));
        beyond(0, -2, rule -> none().holds(rule, 0));
    }

    private static void acts() {
        says("12", "RULES that are DROPPED, as bits.");
        MergeJudge x = of(FULL);
        due(x.dropped(), 0);
        int[] order = {4, 0, 2, 3, 1};
        int[] bits = {16, 17, 21, 29, 31};
        for (int i = 0; i < 5; i++) {
            x.drops(order[i]);
            due(x.dropped(), bits[i]);
        }
        x.lock(0);
        due(x.dropped(), 31);
        x.anew();
        due(x.dropped(), 0);
        due(of(EMPTY).dropped(), 0);
        says("12", "-2: there is no BASE.");
        due(none().dropped(), -2);
        says("13", "OPS that are LOCKED, likewise.");
        due(x.locked(), 0);
        for (int i = 0; i < 5; i++) {
            x.lock(order[i]);
            due(x.locked(), bits[i]);
        }
        x.frees(4);
        due(x.locked(), 15);
        x.drops(0);
        due(x.locked(), 15);
        due(of(EMPTY).locked(), 0);
        due(none().locked(), -2);
    }

    private static void valid() {
        says("14", "1 if a STATE is VALID, else 0.");
        MergeJudge x = of(COUNTER);
        int[] valid = {1, 1, 1, 0};
        for (int state = 0; state < 4; state++) {
            due(x.valid(state), valid[state]);
        }
        due(of(EMPTY).valid(0), 1);
        due(of(FULL).valid(63), 1);
        due(of(FULL).valid(31), 1);
        due(of(FULL).valid(32), 1);
        due(of(NO_VALID).valid(0), 0);
        due(of(NO_VALID).valid(1), 0);
        x.drops(0);
        due(x.valid(3), 1);
        says("14", "-2: there is none such, no BASE.");
        beyond(4, -2, x::valid);
        beyond(64, -2, of(FULL)::valid);
        beyond(1, -2, of(EMPTY)::valid);
        beyond(0, -2, none()::valid);
        says("15", "How many are VALID.");
        due(of(FULL).valids(), 64);
        due(of(EMPTY).valids(), 1);
        due(of(NO_VALID).valids(), 0);
        due(of(COUNTER).valids(), 3);
        due(x.valids(), 4);
        due(of("base top 3 law 0 odds 0;cell max;cell max;cell max;rule least 0 3;rule least 1 3;rule least 2 3;").valids(), 1);
        says("15", "-2: there is no BASE.");
        due(none().valids(), -2);
        says("16", "The first RULE, not DROPPED, that a STATE breaks.");
        MergeJudge y = of("base top 3 law 0 odds 0;cell max;rule most 0 2;rule most 0 1;rule least 0 1;rule most 0 2;");
        due(y.breaks(3), 0);
        due(y.breaks(2), 1);
        due(y.breaks(0), 2);
        y.drops(0);
        due(y.breaks(3), 1);
        y.drops(1);
        due(y.breaks(3), 3);
        due(y.breaks(0), 2);
        says("16", "NONE: none;");
        due(y.breaks(1), -1);
        due(y.breaks(2), -1);
        y.drops(2);
        due(y.breaks(0), -1);
        due(of(EMPTY).breaks(0), -1);
        due(of(FULL).breaks(63), -1);
        says("16", "-2: there is none such, no BASE.");
        beyond(4, -2, y::breaks);
        beyond(64, -2, of(FULL)::breaks);
        beyond(0, -2, none()::breaks);
    }

    private static void ops() {
        says("17", "What an OP makes of a STATE (VALID or not).");
        MergeJudge x = of("base top 3 law 0 odds 0;cell max;cell max;rule most 0 2;op less 0 1;op move 0 1 3;op set 1 3;");
        due(x.valid(3), 0);
        due(x.does(0, 3), 2);
        due(x.does(1, 3), 12);
        due(x.does(0, 1), 0);
        due(x.does(2, 0), 12);
        due(x.does(2, 12), 12);
        x.lock(0);
        due(x.does(0, 3), 2);
        due(of(FULL).does(0, 60), 63);
        due(of(FULL).does(1, 63), 60);
        says("17", "NONE: it is REFUSED;");
        due(x.does(0, 0), -1);
        due(x.does(1, 2), -1);
        due(x.does(1, 7), -1);
        due(x.does(2, 3), -1);
        due(of(FULL).does(0, 1), -1);
        due(of(FULL).does(4, 63), -1);
        due(of(NO_VALID).does(0, 0), -1);
        says("17", "-2: there are none such.");
        beyond(5, -2, op -> of(FULL).does(op, 0));
        beyond(64, -2, state -> of(FULL).does(0, state));
        beyond(3, -2, op -> x.does(op, 0));
        beyond(16, -2, state -> x.does(0, state));
        beyond(0, -2, op -> of(EMPTY).does(op, 0));
        beyond(0, -2, op -> none().does(op, 0));
        says("18", "From how many VALID STATES it is not REFUSED.");
        MergeJudge y = of("base top 3 law 0 odds 0;cell max;rule most 0 2;op less 0 1;op set 0 0;op set 0 3;op more 0 2;");
        int[] works = {2, 3, 0, 1};
        for (int op = 0; op < 4; op++) {
            due(y.works(op), works[op]);
        }
        y.lock(0);
        due(y.works(0), 2);
        y.drops(0);
        int[] without = {3, 4, 4, 2};
        for (int op = 0; op < 4; op++) {
            due(y.works(op), without[op]);
        }
        due(of(FULL).works(2), 64);
        due(of(FULL).works(4), 4);
        due(of(NO_VALID).works(0), 0);
        says("18", "-2: there is none such.");
        beyond(4, -2, y::works);
        beyond(5, -2, of(FULL)::works);
        beyond(0, -2, of(EMPTY)::works);
        beyond(0, -2, none()::works);
    }

    private static void commuting() {
        says("19", "1 if two OPS COMMUTE (VI; one twice, too), else 0.");
        MergeJudge x = of(FREE + "op more 0 1;op more 1 1;op set 0 1;op set 1 0;op move 0 1 1;");
        int[][] due = {{0, 1, 0, 1, 1}, {1, 0, 1, 0, 0}, {0, 1, 1, 1, 0}, {1, 0, 1, 1, 0}, {1, 0, 0, 0, 0}};
        for (int op = 0; op < 5; op++) {
            for (int other = 0; other < 5; other++) {
                due(x.commute(op, other), due[op][other]);
            }
        }
        due(of(NO_VALID).commute(0, 0), 1);
        // From 0 alone neither is REFUSED, and from 3 alone.
        due(of("base top 3 law 0 odds 0;cell max;op more 0 3;op set 0 1;").commute(0, 1), 0);
        due(of("base top 3 law 0 odds 0;cell max;op less 0 3;op set 0 1;").commute(0, 1), 0);
        says("19", "-2: there are none such.");
        beyond(5, -2, op -> x.commute(op, 0));
        beyond(5, -2, op -> x.commute(0, op));
        beyond(2, -2, op -> of(COUNTER).commute(op, op));
        beyond(0, -2, op -> of(EMPTY).commute(op, op));
        beyond(0, -2, op -> none().commute(op, op));
        says("20", "Pairs of OPS (two unlike ones) that COMMUTE: how many.");
        due(x.table(), 5);
        due(of(FREE + "op set 0 1;op set 0 1;op set 1 0;").table(), 3);
        due(of(FREE + "op set 0 1;").table(), 0);
        due(of(FREE).table(), 0);
        due(of(EMPTY).table(), 0);
        due(of("base top 1 law 0 odds 0;cell max;" + "op set 0 1;".repeat(5)).table(), 10);
        says("20", "-2: there is no BASE.");
        due(none().table(), -2);
    }

    private static void merges() {
        says("21", "MERGE (III) of a first, a second side from a BASE STATE (VALID or not).");
        MergeJudge x = of(COUNTER);
        due(x.merge(0, 1, 2), 3);
        due(x.merge(3, 3, 2), 2);
        due(x.merge(3, 1, 2), 0);
        due(x.merge(1, 3, 3), 3);
        due(of(EMPTY).merge(0, 0, 0), 0);
        due(of(NO_VALID).merge(1, 0, 1), 1);
        x.drops(0);
        x.lock(0);
        due(x.merge(0, 1, 2), 3);
        // 3, 3, 3 and 0, 0, 0 from 1, 2, 3: the greater 3, the lesser 0, and of late that which is other, 0.
        due(of(FULL).merge(57, 63, 0), 3);
        due(of(FULL).merge(57, 0, 63), 3);
        due(of(FULL).merge(9, 63, 32), 35);
        says("21", "-2: there are none such, no BASE.");
        beyond(4, -2, state -> of(COUNTER).merge(state, 0, 0));
        beyond(4, -2, state -> of(COUNTER).merge(0, state, 0));
        beyond(4, -2, state -> of(COUNTER).merge(0, 0, state));
        beyond(64, -2, state -> of(FULL).merge(state, 0, 0));
        beyond(64, -2, state -> of(FULL).merge(0, state, 0));
        beyond(64, -2, state -> of(FULL).merge(0, 0, state));
        beyond(0, -2, state -> none().merge(state, state, state));
        says("22", "1 if it is the same with the sides changed over, else 0.");
        for (int law = 0; law < 4; law++) {
            MergeJudge y = of("base top 3 law " + law + " odds 0;cell late;");
            due(y.even(1, 2, 3), law < 2 ? 0 : 1);
            due(y.even(1, 2, 2), 1);
            due(y.even(1, 1, 3), 1);
        }
        due(of(FULL).even(9, 63, 32), 0);
        due(of(FULL).even(9, 47, 0), 1);
        due(of(FULL).even(9, 15, 0), 1);
        due(x.even(0, 1, 2), 1);
        says("22", "-2 likewise.");
        beyond(4, -2, state -> of(COUNTER).even(state, 0, 0));
        beyond(4, -2, state -> of(COUNTER).even(0, state, 0));
        beyond(4, -2, state -> of(COUNTER).even(0, 0, state));
        beyond(0, -2, state -> none().even(state, state, state));
    }

    private static void weights() {
        says("42", "Values of all CELLS in a STATE together.");
        MergeJudge x = of(FULL);
        due(x.weight(0), 0);
        due(x.weight(63), 9);
        due(x.weight(38), 5);
        due(x.weight(16), 1);
        due(of(EXAMPLE).weight(8), 4);
        due(of(EXAMPLE).weight(5), 3);
        due(of(EMPTY).weight(0), 0);
        due(of(NO_VALID).weight(1), 1);
        says("42", "-2: there is none such, no BASE.");
        beyond(64, -2, x::weight);
        beyond(9, -2, of(EXAMPLE)::weight);
        beyond(1, -2, of(EMPTY)::weight);
        beyond(0, -2, none()::weight);
    }

    private static void open() {
        says("46", "OPS that are not REFUSED from a STATE (VALID or not), as bits.");
        MergeJudge x = of("base top 2 law 0 odds 0;cell max;rule most 0 1;op less 0 1;op set 0 1;op more 0 1;");
        int[] opens = {6, 3, 3};
        for (int state = 0; state < 3; state++) {
            due(x.opens(state), opens[state]);
        }
        x.lock(0);
        due(x.opens(2), 3);
        x.drops(0);
        due(x.opens(1), 7);
        due(x.opens(2), 3);
        due(of(FULL).opens(0), 13);
        due(of(FULL).opens(3), 30);
        due(of(EMPTY).opens(0), 0);
        due(of(NO_VALID).opens(0), 0);
        says("46", "-2: there is none such, no BASE.");
        beyond(3, -2, x::opens);
        beyond(64, -2, of(FULL)::opens);
        beyond(1, -2, of(EMPTY)::opens);
        beyond(0, -2, none()::opens);
        says("47", "VALID STATES from which all are REFUSED: how many.");
        due(of(COUNTER).dead(), 1);
        due(of(LADDER).dead(), 1);
        due(of(FULL).dead(), 0);
        due(of(EMPTY).dead(), 1);
        due(of(FREE).dead(), 16);
        due(of(NO_VALID).dead(), 0);
        due(of("base top 3 law 0 odds 0;cell max;rule most 0 1;op set 0 2;").dead(), 2);
        MergeJudge y = of(COUNTER);
        y.lock(0);
        y.lock(1);
        due(y.dead(), 1);
        says("47", "-2: there is no BASE.");
        due(none().dead(), -2);
    }

    private static void clashes() {
        says("48", "From how many VALID STATES two OPS (one twice, too), neither REFUSED, done once each, the first OP "
                + "by the first side (whatever the STATES), MERGE to one that is not VALID (LOCKED or not).");
        MergeJudge x = of(COUNTER);
        // 1 and 2 from 0; 1 and 1 from 0 (2: fine), 2 and 2 from 1; 2 and 2 from 0.
        due(x.clashes(0, 1), 1);
        due(x.clashes(1, 0), 1);
        due(x.clashes(0, 0), 1);
        due(x.clashes(1, 1), 1);
        x.lock(0);
        x.lock(1);
        due(x.clashes(0, 1), 1);
        due(x.clashes(0, 0), 1);
        x.drops(0);
        due(x.clashes(0, 0), 0);
        // A greater STATE by the first side, by the first's law.
        due(of(LATE).clashes(0, 1), 0);
        due(of(LATE).clashes(1, 0), 1);
        due(of(LATE.replace("law 0", "law 1")).clashes(0, 1), 1);
        due(of(LATE.replace("law 0", "law 1")).clashes(1, 0), 0);
        due(of(NO_VALID).clashes(0, 0), 0);
        due(of(EXAMPLE).clashes(1, 1), 3);
        says("48", "-2: there are none such.");
        beyond(2, -2, op -> of(COUNTER).clashes(op, 0));
        beyond(2, -2, op -> of(COUNTER).clashes(0, op));
        beyond(5, -2, op -> of(FULL).clashes(op, op));
        beyond(0, -2, op -> of(EMPTY).clashes(op, op));
        beyond(0, -2, op -> none().clashes(op, op));
    }

    private static void nearest() {
        says("49", "The VALID STATE that is other than a STATE in fewest CELLS (in none, too), the least of several.");
        MergeJudge x = of("base top 3 law 0 odds 0;cell max;cell max;rule least 0 1;rule most 0 2;rule least 1 2;rule most 1 2;");
        // VALID are 1, 2 (9) and 2, 2 (10).
        due(x.nearest(9), 9);
        due(x.nearest(10), 10);
        due(x.nearest(2), 10);
        due(x.nearest(11), 9);
        due(x.nearest(15), 9);
        due(x.nearest(14), 10);
        due(x.nearest(0), 9);
        due(of("base top 3 law 0 odds 0;cell max;cell max;cell max;rule least 0 3;rule least 1 3;rule least 2 3;").nearest(0), 63);
        due(of(EMPTY).nearest(0), 0);
        due(of(EXAMPLE).nearest(8), 2);
        x.drops(0);
        due(x.nearest(11), 8);
        says("49", "NONE: none is VALID;");
        due(of(NO_VALID).nearest(0), -1);
        due(of(NO_VALID).nearest(1), -1);
        says("49", "-2: there is none such, no BASE.");
        beyond(16, -2, x::nearest);
        beyond(2, -2, of(NO_VALID)::nearest);
        beyond(64, -2, of(FULL)::nearest);
        beyond(0, -2, none()::nearest);
    }

    private static void hard() {
        String head = "base top 3 law 0 odds 0;cell max;";
        says("50", "The RULE (DROPPED or not) that most STATES (none, too) break, the first of several.");
        due(of(head + "rule most 0 2;rule most 0 0;rule least 0 2;").hard(), 1);
        due(of(head + "rule most 0 2;rule least 0 1;rule least 0 2;rule most 0 1;").hard(), 2);
        due(of(head + "rule most 0 3;rule least 0 0;").hard(), 0);
        due(of(FULL).hard(), 0);
        due(of(head + "rule least 0 0;rule least 0 0;rule least 0 0;rule least 0 0;rule least 0 1;").hard(), 4);
        MergeJudge x = of(head + "rule most 0 2;rule most 0 0;");
        x.drops(1);
        due(x.hard(), 1);
        x.drops(0);
        due(x.hard(), 1);
        says("50", "NONE: there are none;");
        due(of(head).hard(), -1);
        due(of(EMPTY).hard(), -1);
        says("50", "-2: there is no BASE.");
        due(none().hard(), -2);
        says("51", "1 if as many STATES are VALID with a RULE DROPPED besides, else 0.");
        x = of(head + "rule most 0 2;rule most 0 1;rule least 0 1;");
        due(x.spare(0), 1);
        due(x.spare(1), 0);
        due(x.spare(2), 0);
        x.drops(1);
        due(x.spare(0), 0);
        due(x.spare(1), 1);
        due(x.dropped(), 2);
        due(x.valids(), 2);
        due(of(FULL).spare(4), 1);
        due(of(NO_VALID).spare(0), 0);
        says("51", "-2: there is none such.");
        beyond(3, -2, x::spare);
        beyond(5, -2, of(FULL)::spare);
        beyond(0, -2, of(EMPTY)::spare);
        beyond(0, -2, none()::spare);
    }

    private static void room() {
        says("52", "Values of a CELL in VALID STATES, as bits.");
        MergeJudge x = of("base top 3 law 0 odds 0;cell max;cell max;rule sum 0 1 2;rule if 0 1 0 2;");
        // 0 with 0, 1, 2; 2 with 0.
        due(x.room(0), 5);
        due(x.room(1), 7);
        x.drops(1);
        due(x.room(0), 7);
        x.drops(0);
        due(x.room(0), 15);
        due(x.room(1), 15);
        due(of(NO_VALID).room(0), 0);
        due(of("base top 3 law 0 odds 0;cell max;rule most 0 0;").room(0), 1);
        due(of("base top 3 law 0 odds 0;cell max;rule least 0 3;").room(0), 8);
        for (int cell = 0; cell < 3; cell++) {
            due(of(FULL).room(cell), 15);
        }
        says("52", "-2: there is none such.");
        beyond(2, -2, x::room);
        beyond(3, -2, of(FULL)::room);
        beyond(0, -2, of(EMPTY)::room);
        beyond(0, -2, none()::room);
    }
}
