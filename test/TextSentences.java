/** Promises 1 to 8: a new object, its TAPE, what is told. */
final class TextSentences extends Sentences {
    static void ask() {
        newObject();
        feeding();
        ending();
        base();
        faults();
        told();
    }

    private static void newObject() {
        says("1", "No BASE.");
        MergeJudge x = none();
        long[] askedAlone = {x.states(), x.dropped(), x.locked(), x.valids(), x.table(), x.bound(), x.dead(), x.hard(),
            x.blame(), x.cure(), x.law(), x.undo(), x.anew()};
        long[] ofCells = {x.cell(0), x.value(0, 0), x.room(0), x.rate(0, 0)};
        long[] ofRules = {x.rule(0, 0), x.holds(0, 0), x.hits(0, 0), x.known(0), x.alone(0, 0), x.spare(0), x.drops(0)};
        long[] ofOps = {x.op(0, 0), x.does(0, 0), x.works(0), x.commute(0, 0), x.commute(0, 1), x.clashes(0, 1),
            x.rests(0, 1), x.lock(0), x.frees(0)};
        long[] ofStates = {x.valid(0), x.breaks(0), x.merge(0, 0, 0), x.even(0, 0, 0), x.reach(0, 0), x.far(0, 0),
            x.step(0, 0), x.freely(0, 0), x.bad(0, 0), x.weight(0), x.calm(0), x.opens(0), x.nearest(0),
            x.asked(0, 0)};
        long[] ofDepths = {x.all(0), x.pairs(0), x.safe(0), x.least(0, 0), x.culprit(0), x.worst(0), x.fine(0),
            x.fewest(0), x.locks(0), x.needed(0), x.bare(0), x.hot(0)};
        long[] others = {x.fits(0), x.which(0), x.laws(0), x.by(0), x.worth(0), x.chance(0), x.mean(0), x.drawn(0, 0),
            x.luck(0, 1)};
        for (long[] answers : new long[][] {askedAlone, ofCells, ofRules, ofOps, ofStates, ofDepths, others}) {
            for (long answer : answers) {
                due(answer, -2);
            }
        }
        due(x.share(0, 0), -1000000);
        due(x.gets(0, 1, 0, 0), -1000000);
        due(x.fault(0), 0);
        due(x.fault(1), -1);
        for (int what = 0; what <= 9; what++) {
            due(x.count(what), 0);
        }
        for (int k = 0; k <= 2; k++) {
            due(x.back(k), -6);
        }
        due(x.write(0, 0, 0), -6);
        due(x.paste(0, 0, 0, 0, 0), -6);
        due(x.row(0, 0, 0), 0);
        due(x.image(0), 0);
        due(x.end(0), 0);
        due(x.base(), 0);
        due(MergeJudge.NONE, -1);
    }

    private static void feeding() {
        says("2", "Twenty bytes come behind the TAPE, four of each number, the highest first: how many it has;");
        MergeJudge x = none();
        // "base", " top", " 1 l", "aw 0", " odd", then "s 7;" and blanks.
        due(x.feed(0x62617365, 0x20746f70, 0x2031206c, 0x61772030, 0x206f6464), 20);
        due(x.feed(0x7320373b, 0x20202020, 0x0a202020, 0x20202020, 0x0a0a0a0a), 40);
        due(x.count(8), 40);
        due(x.base(), 1);
        due(x.count(2), 7);
        // The byte at each place is told by where the FAULT is: 63 stands at one place, blanks elsewhere.
        for (int at = 0; at < 20; at++) {
            int[] n = {0x20202020, 0x20202020, 0x20202020, 0x20202020, 0x20202020};
            n[at / 4] += 63 - 32 << 24 - at % 4 * 8;
            x.feed(n[0], n[1], n[2], n[3], n[4]);
            due(x.base(), -4);
            due(x.fault(1), at);
        }
        // Bytes of 128 and more, and all of four bytes.
        due(x.feed(0x20202020, -1, MIN, MAX, 0), 20);
        due(x.base(), -4);
        due(x.fault(0), 1);
        due(x.fault(1), 4);
        due(x.feed(0x20202020, 0x202020a0, 0x20202020, 0x20202020, 0x20202020), 20);
        due(x.base(), -4);
        due(x.fault(1), 7);
        says("2", "NONE, and none come, if it would have more than 400.");
        for (int i = 1; i <= 20; i++) {
            due(x.feed(0x20202020, 0x20202020, 0x20202020, 0x20202020, 0x20202020), 20 * i);
        }
        due(x.feed(-1, -1, -1, -1, -1), -1);
        due(x.count(8), 400);
        due(x.end(381), 381);
        due(x.feed(-1, -1, -1, -1, -1), -1);
        due(x.count(8), 381);
        due(x.end(380), 380);
        due(x.feed(0x20202020, 0x20202020, 0x20202020, 0x20202020, 0x2020203f), 400);
        due(x.feed(0, 0, 0, 0, 0), -1);
        due(x.base(), -4);
        due(x.fault(1), 399);
        due(x.feed(0x20202020, 0x20202020, 0x20202020, 0x20202020, 0x20202020), 20);
        due(x.base(), 0);
    }

    private static void ending() {
        says("3", "The TAPE has its first n bytes alone: n;");
        MergeJudge x = none();
        feed(x, (HEAD + "?").getBytes());
        due(x.end(40), 40);
        due(x.end(24), 24);
        due(x.count(8), 24);
        due(x.base(), 1);
        feed(x, HEAD.getBytes());
        due(x.end(0), 0);
        due(x.base(), 0);
        feed(x, HEAD.getBytes());
        due(x.end(20), 20);
        // "s 0;" comes behind the 20 bytes that are left.
        due(x.feed(0x7320303b, 0x20202020, 0x20202020, 0x20202020, 0x20202020), 40);
        due(x.base(), 1);
        // What was behind the end is not read: "base top 12" is "base top 1", "baset" is "base".
        for (String text : new String[] {"base top 12", "baset"}) {
            feed(x, text.getBytes());
            due(x.end(text.length() - 1), text.length() - 1);
            due(x.base(), -4);
            due(x.fault(0), 1);
            due(x.fault(1), text.length() - 1);
        }
        for (int i = 0; i < 20; i++) {
            x.feed(0, 0, 0, 0, 0);
        }
        due(x.end(400), 400);
        due(x.end(399), 399);
        says("3", "NONE, and nothing happens, if it has not so many,");
        due(x.end(400), -1);
        due(x.end(MAX), -1);
        due(x.count(8), 399);
        due(x.end(0), 0);
        due(x.end(1), -1);
        due(x.count(8), 0);
        due(none().end(1), -1);
        says("3", "or n is below 0.");
        x.feed(0, 0, 0, 0, 0);
        due(x.end(-1), -1);
        due(x.end(MIN), -1);
        due(x.count(8), 20);
    }

    private static void base() {
        says("4", "The TAPE (empty then) is the BASE (in place of another), nothing done: how many LINES (0: there is none then).");
        MergeJudge x = none();
        due(tell(x, HEAD), 1);
        due(x.count(8), 0);
        due(tell(x, FULL), 14);
        due(x.count(8), 0);
        due(x.count(7), 14);
        x.lock(4);
        x.drops(4);
        due(tell(x, COUNTER), 5);
        due(x.count(7), 5);
        due(x.states(), 4);
        due(x.count(3), 1);
        due(x.count(4), 1);
        due(x.count(5), 2);
        due(x.count(6), 0);
        due(x.locked(), 0);
        due(x.dropped(), 0);
        due(x.undo(), -5);
        due(x.cell(1), -2);
        due(x.rule(1, 0), -2);
        due(x.op(2, 0), -2);
        due(x.all(1), 3);
        x.lock(0);
        x.drops(0);
        due(x.base(), 0);
        due(x.states(), -2);
        due(x.valid(0), -2);
        due(x.locked(), -2);
        due(x.undo(), -2);
        for (int what = 0; what < 9; what++) {
            due(x.count(what), 0);
        }
        due(tell(x, COUNTER), 5);
        due(tell(x, " \n\n "), 0);
        due(x.states(), -2);
        due(x.cell(0), -2);
        due(x.all(0), -2);
        says("4", "-4: a FAULT (the TAPE is empty, all else stays).");
        x = of(COUNTER);
        x.image(1);
        x.lock(1);
        x.drops(0);
        write(x, 2, 1, 3, 3, 3);
        for (String bad : new String[] {"rule most 0 1;", HEAD + "cell min;cell min;op move 0 1 9;", "base", HEAD + ";"}) {
            due(tell(x, bad), -4);
            due(x.count(8), 0);
            due(x.count(7), 5);
            due(x.count(0), 3);
            due(x.count(1), 2);
            due(x.count(2), 3);
            due(x.states(), 4);
            due(x.cell(0), 2);
            due(x.rule(0, 2), 2);
            due(x.op(1, 2), 2);
            due(x.locked(), 2);
            due(x.dropped(), 1);
            due(x.count(6), 2);
            due(x.valids(), 4);
            due(x.fits(2), 4);
            due(x.back(0), -6);
        }
        due(x.undo(), 1);
        due(x.back(1), 0);
        due(x.all(1), 3);
        x = none();
        due(tell(x, "base"), -4);
        due(x.states(), -2);
        due(x.base(), 0);
    }

    private static void faults() {
        says("5", "Of the latest base(), what 0: its FAULT, 0 without, 1: its place (NONE without).");
        MergeJudge x = none();
        tell(x, HEAD + "cell max;rule most 0 2;");
        due(x.fault(0), 2);
        due(x.fault(1), 45);
        tell(x, "?");
        due(x.fault(0), 1);
        due(x.fault(1), 0);
        tell(x, HEAD + "cell max;cell max;cell max;cell max;");
        due(x.fault(0), 3);
        due(x.fault(1), 51);
        x.image(0);
        x.back(0);
        due(x.fault(0), 3);
        tell(x, HEAD);
        due(x.fault(0), 0);
        due(x.fault(1), -1);
        tell(x, "7");
        due(x.fault(0), 1);
        x.base();
        due(x.fault(0), 0);
        due(x.fault(1), -1);
        says("5", "NONE for another what,");
        beyond(2, -1, x::fault);
        tell(x, "?");
        beyond(2, -1, x::fault);
        says("5", "and ahead of any (what 1).");
        x = none();
        due(x.fault(1), -1);
        due(x.fault(0), 0);
        x.feed(0, 0, 0, 0, 0);
        due(x.fault(1), -1);
        due(x.fault(0), 0);
        beyond(2, -1, x::fault);
    }

    private static void told() {
        MergeJudge x = of("base top 3 law 0 odds 0;cell late;cell add;cell min;");
        says("6", "How a CELL is merged: 0 max, 1 min, 2 add, 3 late.");
        due(of(LADDER).cell(0), 0);
        due(x.cell(2), 1);
        due(x.cell(1), 2);
        due(x.cell(0), 3);
        says("6", "-2: there is none such.");
        beyond(3, -2, x::cell);
        beyond(1, -2, of(LADDER)::cell);
        beyond(0, -2, of(EMPTY)::cell);
        beyond(0, -2, none()::cell);
        says("7", "Of a RULE, what 0: its kind (0 most, 1 least, .., 5 if), 1 .. 4: its numbers (NONE: it has none such).");
        x = of("base top 3 law 0 odds 0;cell max;cell max;rule least 1 2;rule most 0 3;rule if 1 0 0 3;rule order 1 0;"
                + "rule sum 1 0 6;");
        int[][] rules = {{1, 1, 2, -1, -1}, {0, 0, 3, -1, -1}, {5, 1, 0, 0, 3}, {4, 1, 0, -1, -1}, {3, 1, 0, 6, -1}};
        for (int rule = 0; rule < 5; rule++) {
            for (int what = 0; what < 5; what++) {
                due(x.rule(rule, what), rules[rule][what]);
            }
        }
        int[] unlike = {2, 0, 1, -1, -1};
        for (int what = 0; what < 5; what++) {
            due(of(HEAD + "cell max;cell max;rule unlike 0 1;").rule(0, what), unlike[what]);
        }
        says("7", "-2: there are none such.");
        beyond(5, -2, rule -> of(FULL).rule(rule, 0));
        beyond(5, -2, what -> of(FULL).rule(4, what));
        beyond(1, -2, rule -> of(LADDER).rule(rule, 0));
        beyond(0, -2, rule -> of(EMPTY).rule(rule, 0));
        beyond(0, -2, rule -> none().rule(rule, 0));
        due(of(LADDER).rule(1, 5), -2);
        says("8", "Of an OP, what 0: its kind (0 more, 1 less, 2 set, 3 move), 1 .. 3: its numbers (NONE: it has none such).");
        x = of("base top 3 law 0 odds 0;cell max;cell max;op move 1 0 2;op set 1 0;op less 0 3;op more 1 1;");
        int[][] ops = {{3, 1, 0, 2}, {2, 1, 0, -1}, {1, 0, 3, -1}, {0, 1, 1, -1}};
        for (int op = 0; op < 4; op++) {
            for (int what = 0; what < 4; what++) {
                due(x.op(op, what), ops[op][what]);
            }
        }
        says("8", "-2: there are none such.");
        beyond(5, -2, op -> of(FULL).op(op, 0));
        beyond(4, -2, what -> of(FULL).op(4, what));
        beyond(1, -2, op -> of(LADDER).op(op, 0));
        beyond(0, -2, op -> of(EMPTY).op(op, 0));
        beyond(0, -2, op -> none().op(op, 0));
    }
}
