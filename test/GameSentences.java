/** Promises 56 to 66, 72 and 73: what is SEEN, LAWS, SHARES, the GAME, CHANCE, AUDITS. */
final class GameSentences extends Sentences {
    private static final String LATE_CELL = "base top 3 law 1 odds 0;cell late;rule least 0 1;";

    static void ask() {
        fits();
        which();
        laws();
        by();
        worth();
        share();
        game();
        chance();
        mean();
        drawn();
        luck();
    }

    private static void fits() {
        says("56", "SEEN (VII): how many BASE STATES there can have been by a SLOT's row.");
        MergeJudge x = of(EXAMPLE);
        write(x, 0, 0, 3, 3, 6);
        due(x.fits(0), 3);
        write(x, 1, 0);
        due(x.fits(1), 6);
        long[] most = new long[60];
        for (int i = 0; i < 60; i += 3) {
            most[i] = 3;
            most[i + 1] = 3;
            most[i + 2] = 6;
        }
        for (int width = 0; width <= 3; width++) {
            write(x, 2, width, most);
            due(x.fits(2), 3);
        }
        most[59] = 3;
        write(x, 2, 3, most);
        due(x.fits(2), 0);
        MergeJudge y = of(FULL);
        write(y, 3, 0, 63, 63, 63);
        due(y.fits(3), 64);
        // The lesser of 3 and 0 is 0: nothing fits.
        write(y, 3, 0, 63, 0, 63);
        due(y.fits(3), 0);
        MergeJudge z = of(NO_VALID);
        write(z, 0, 0, 0, 0, 0);
        due(z.fits(0), 0);
        z = of(EMPTY);
        write(z, 0, 0, 0, 0, 0);
        due(z.fits(0), 1);
        says("56", "-2: there is no such SLOT, no BASE, a number is none such (asked last), not three each;");
        beyond(4, -2, x::fits);
        beyond(0, -2, none()::fits);
        MergeJudge w = none();
        write(w, 0, 0, 0, 0, 0);
        due(w.fits(0), -2);
        for (int n = 1; n <= 8; n++) {
            w = of(EXAMPLE);
            w.row(0, 0, n);
            due(w.fits(0), n % 3 == 0 ? 6 : -2);
        }
        w = of(EXAMPLE);
        w.row(0, 0, 59);
        due(w.fits(0), -2);
        for (int i = 0; i < 3; i++) {
            for (long bad : new long[] {9, -1, 127, 4294967296L, Long.MAX_VALUE, Long.MIN_VALUE, 1L << 33}) {
                w.row(0, 3, 3);
                w.write(0, i, bad);
                due(w.fits(0), -2);
            }
            w.row(0, 0, 3);
            w.write(0, i, 255);
            due(w.fits(0), -2);
            w.write(0, i, 8);
            due(w.fits(0) >= 0 ? 1 : 0, 1);
        }
        // The same row is read by another BASE: 8 is a STATE no more.
        write(w, 0, 0, 8, 8, 8);
        due(w.fits(0) >= 0 ? 1 : 0, 1);
        tell(w, COUNTER);
        due(w.fits(0), -2);
        w.base();
        due(w.fits(0), -2);
        says("56", "-6: it has nothing.");
        for (int slot = 0; slot <= 3; slot++) {
            due(of(EXAMPLE).fits(slot), -6);
        }
        w = of(EXAMPLE);
        due(w.row(1, 0, -1), -3);
        due(w.fits(1), -6);
    }

    private static void which() {
        says("57", "The least of these.");
        MergeJudge x = of(LATE_CELL);
        write(x, 1, 1, 0, 2, 2);
        // By the second's law from 0 (not VALID), 1, 3.
        due(x.which(1), 1);
        write(x, 1, 1, 0, 2, 2, 1, 3, 1);
        due(x.which(1), 3);
        write(x, 0, 0);
        due(x.which(0), 1);
        x.drops(0);
        due(x.which(0), 0);
        write(x, 1, 1, 0, 2, 2);
        due(x.which(1), 0);
        MergeJudge y = of("base top 3 law 0 odds 0;cell max;cell max;cell max;rule least 0 3;rule least 1 3;rule least 2 3;");
        write(y, 0, 0);
        due(y.which(0), 63);
        says("57", "NONE: none;");
        x.anew();
        write(x, 1, 1, 0, 2, 3);
        due(x.which(1), -1);
        MergeJudge z = of(NO_VALID);
        write(z, 0, 0);
        due(z.which(0), -1);
        says("57", "-2, -6 likewise.");
        seenLikewise(1);
    }

    /** -2 and -6 as fits() has them: of which (1) and of laws (2). */
    private static void seenLikewise(int call) {
        beyond(4, -2, slot -> seen(of(EXAMPLE), call, slot));
        beyond(0, -2, slot -> seen(none(), call, slot));
        MergeJudge x = of(EXAMPLE);
        due(seen(x, call, 3), -6);
        write(x, 3, 0, 0, 0);
        due(seen(x, call, 3), -2);
        write(x, 3, 0, 0, 0, 9);
        due(seen(x, call, 3), -2);
        write(x, 3, 3, 0, 0, 4294967296L);
        due(seen(x, call, 3), -2);
        write(x, 3, 3, 0, 0, -1);
        due(seen(x, call, 3), -2);
        write(x, 3, 3, 0, 0, 0);
        due(seen(x, call, 3) >= 0 ? 1 : 0, 1);
        x.base();
        due(seen(x, call, 3), -2);
        due(seen(x, call, 0), -2);
    }

    private static int seen(MergeJudge x, int call, int slot) {
        return call == 1 ? x.which(slot) : x.laws(slot);
    }

    private static void laws() {
        says("58", "LAWS (0 .. 3) by which there is one, as bits.");
        MergeJudge x = of("base top 3 law 0 odds 0;cell late;rule most 0 1;");
        // From 0 or 1 the sides 2, 3 come to 2, 3, 3, or stay.
        int[] byResult = {8, 8, 1, 6};
        for (int result = 0; result < 4; result++) {
            write(x, 2, 2, 2, 3, result);
            due(x.laws(2), byResult[result]);
        }
        write(x, 2, 2, 3, 2, 3);
        due(x.laws(2), 5);
        write(x, 2, 2, 3, 2, 2);
        due(x.laws(2), 2);
        write(x, 2, 2, 2, 3, 2, 2, 3, 3);
        due(x.laws(2), 0);
        write(x, 2, 2);
        due(x.laws(2), 15);
        // Asked and taken back.
        due(x.merge(1, 2, 3), 2);
        due(x.count(1), 0);
        MergeJudge y = of(NO_VALID);
        write(y, 0, 0);
        due(y.laws(0), 0);
        says("58", "-2, -6 likewise.");
        seenLikewise(2);
    }

    private static void by() {
        says("59", "BREAKS in 1 by a LAW in place of the one told.");
        MergeJudge x = of(LATE);
        int[] by = {0, 1, 1, 0};
        for (int law = 0; law <= 3; law++) {
            due(x.by(law), by[law]);
            due(of(LATE.replace("law 0", "law 2")).by(law), by[law]);
            due(of(COUNTER).by(law), 3);
            due(of(EMPTY).by(law), 0);
        }
        due(x.all(1), 0);
        due(x.count(1), 0);
        due(x.merge(3, 1, 5), 1);
        x.drops(0);
        due(x.by(1), 0);
        due(of(TWO_STEPS).by(0), 0);
        says("59", "-2: there is none such (0 .. 3), no BASE.");
        beyond(4, -2, x::by);
        beyond(0, -2, none()::by);
        says("60", "The LAW by which there are fewest, the least of several.");
        for (int law = 0; law <= 3; law++) {
            MergeJudge y = of(LATE.replace("law 0", "law " + law));
            due(y.law(), 0);
            due(y.count(1), law);
            due(y.all(1), by[law]);
        }
        due(of(COUNTER).law(), 0);
        due(of(EMPTY).law(), 0);
        // From 2, 0 to 0, 0 and 1, 1: only the first's law makes 0, 1 of them.
        due(of("base top 2 law 0 odds 0;cell late;cell late;rule if 1 1 0 1;op set 0 0;op move 0 1 1;").law(), 1);
        says("60", "-2: there is no BASE.");
        due(none().law(), -2);
    }

    private static void worth() {
        says("61", "What a set of RULES (bits) is worth (VIII).");
        MergeJudge x = of(EXAMPLE);
        int[] worths = {0, 3, 2, 3};
        for (int set = 0; set < 4; set++) {
            due(x.worth(set), worths[set]);
        }
        due(x.dropped(), 0);
        due(x.all(1), 3);
        x.drops(1);
        due(x.worth(2), 0);
        due(x.worth(3), 3);
        due(x.dropped(), 2);
        x.lock(1);
        due(x.worth(1), 0);
        due(of(EMPTY).worth(0), 0);
        due(of(FULL).worth(31), 0);
        due(of(SUMS).worth(2), 1);
        due(of(SUMS).worth(3), 0);
        says("61", "-2: there is no such set, no BASE.");
        beyond(4, -2, x::worth);
        beyond(1, -2, of(EMPTY)::worth);
        beyond(32, -2, of(FULL)::worth);
        beyond(0, -2, none()::worth);
    }

    private static void share() {
        says("62", "SHARE (VIII) of a RULE, above (what 0; below 0, too), below (1).");
        fraction(2, 1, of(EXAMPLE).share(0, 0), of(EXAMPLE).share(0, 1));
        fraction(1, 1, of(EXAMPLE).share(1, 0), of(EXAMPLE).share(1, 1));
        fraction(-1, 2, of(SUMS).share(0, 0), of(SUMS).share(0, 1));
        fraction(1, 2, of(SUMS).share(1, 0), of(SUMS).share(1, 1));
        MergeJudge x = of(EXAMPLE);
        x.drops(0);
        fraction(0, 1, x.share(0, 0), x.share(0, 1));
        fraction(2, 1, x.share(1, 0), x.share(1, 1));
        due(x.dropped(), 1);
        // Five alike: each is first in one of five orders.
        String sum = "rule sum 0 1 1;";
        x = of("base top 1 law 0 odds 0;cell max;cell max;" + sum.repeat(5) + "op more 0 1;op more 1 1;");
        for (int rule = 0; rule < 5; rule++) {
            fraction(1, 5, x.share(rule, 0), x.share(rule, 1));
        }
        x.lock(0);
        x.lock(1);
        fraction(0, 1, x.share(4, 0), x.share(4, 1));
        fraction(0, 1, of(FULL).share(4, 0), of(FULL).share(4, 1));
        // The first takes the BREAK away, unless it is first itself; of the others the first one of all brings it.
        x = of("base top 1 law 0 odds 0;cell max;cell max;rule most 0 0;" + sum.repeat(4) + "op more 0 1;op more 1 1;");
        fraction(-4, 5, x.share(0, 0), x.share(0, 1));
        for (int rule = 1; rule < 5; rule++) {
            fraction(1, 5, x.share(rule, 0), x.share(rule, 1));
        }
        // Fewer RULES behind more of them.
        tell(x, EXAMPLE);
        fraction(2, 1, x.share(0, 0), x.share(0, 1));
        fraction(1, 1, x.share(1, 0), x.share(1, 1));
        says("62", "-1,000,000: there are none such.");
        beyond(2, -1000000, rule -> of(EXAMPLE).share(rule, 0));
        beyond(2, -1000000, what -> of(EXAMPLE).share(0, what));
        beyond(5, -1000000, rule -> of(FULL).share(rule, 1));
        beyond(0, -1000000, rule -> of(EMPTY).share(rule, 0));
        beyond(0, -1000000, rule -> none().share(rule, 0));
    }

    private static void fraction(long above, long below, long gotAbove, long gotBelow) {
        due(gotAbove, above);
        due(gotBelow, below);
    }

    private static void game() {
        says("63", "GAME (IX): pairs of choices of two OPS at REST, as bits: 1 neither is LOCKED, 2 the first one is, "
                + "4 the other one, 8 both.");
        MergeJudge x = of(COUNTER);
        due(x.rests(0, 1), 9);
        due(x.rests(1, 0), 9);
        due(of(EXAMPLE).rests(0, 1), 4);
        due(of(EXAMPLE).rests(1, 0), 2);
        due(x.locked(), 0);
        x.lock(0);
        // Op 0 gets 2 less by its own choice; op 1 would save 2 BREAKS by it: as good, LOCKED or not.
        due(x.rests(0, 1), 5);
        due(x.rests(1, 0), 3);
        x.lock(1);
        due(x.rests(0, 1), 1);
        // A third OP comes to 2 freely: no choice of these two takes a BREAK away.
        due(of(COUNTER + "op set 0 2;").rests(0, 1), 1);
        due(of(COUNTER + "op set 0 2;").gets(0, 1, 1, 1), 2 - 3 - 2);
        says("63", "-2: there are none such, one twice.");
        beyond(2, -2, op -> of(COUNTER).rests(op, 0));
        beyond(2, -2, op -> of(COUNTER).rests(0, op));
        due(x.rests(0, 0), -2);
        due(x.rests(1, 1), -2);
        due(of(FULL).rests(4, 4), -2);
        beyond(0, -2, op -> of(EMPTY).rests(op, 1));
        beyond(0, -2, op -> none().rests(op, 1));
        says("64", "What the first of two GETS by the choices (1 it is LOCKED, 0 not; below 0, too).");
        MergeJudge y = of(COUNTER);
        int[][] gets = {{-1, 0, -2, 0}, {-2, -1, -3, -1}};
        for (int op = 0; op < 2; op++) {
            for (int choices = 0; choices < 4; choices++) {
                due(y.gets(op, 1 - op, choices / 2, choices % 2), gets[op][choices]);
            }
        }
        due(y.locked(), 0);
        y.drops(0);
        due(y.gets(0, 1, 0, 0), 3);
        due(y.gets(0, 1, 1, 1), 1);
        due(of(FULL).gets(2, 4, 0, 0), 64);
        due(of(FULL).gets(4, 2, 1, 1), 2);
        says("64", "-1,000,000: there are none such, one twice.");
        beyond(2, -1000000, op -> of(COUNTER).gets(op, 0, 0, 0));
        beyond(2, -1000000, op -> of(COUNTER).gets(0, op, 0, 0));
        beyond(2, -1000000, choice -> of(COUNTER).gets(0, 1, choice, 0));
        beyond(2, -1000000, choice -> of(COUNTER).gets(0, 1, 0, choice));
        due(y.gets(1, 1, 0, 0), -1000000);
        due(y.gets(0, 0, 1, 1), -1000000);
        beyond(0, -1000000, op -> of(EMPTY).gets(op, 1, 0, 0));
        beyond(0, -1000000, op -> none().gets(op, 1, 0, 0));
    }

    private static void chance() {
        says("65", "CHANCE (X): that it is SAFE in 1, above, below.");
        long[][] byOdds = {{0, 1}, {1, 10}, {1, 5}, {3, 10}, {2, 5}, {1, 2}, {3, 5}, {7, 10}, {4, 5}, {9, 10}, {1, 1}};
        for (int odds = 0; odds <= 10; odds++) {
            MergeJudge x = of(COUNTER.replace("odds 3", "odds " + odds));
            fraction(byOdds[odds][0], byOdds[odds][1], x.chance(0), x.chance(1));
        }
        fraction(1, 4, of(EXAMPLE).chance(0), of(EXAMPLE).chance(1));
        // SAFE but if rule 0 is DROPPED and rule 1 is not: 3 of 4.
        fraction(3, 4, of(SUMS).chance(0), of(SUMS).chance(1));
        fraction(1, 1, of(EMPTY).chance(0), of(EMPTY).chance(1));
        fraction(1, 1, of(NO_VALID).chance(0), of(NO_VALID).chance(1));
        fraction(1, 1, of(TWO_STEPS).chance(0), of(TWO_STEPS).chance(1));
        // All five must be DROPPED: 3 to the fifth of ten to the fifth.
        String sum = "rule sum 0 1 1;";
        MergeJudge five = of("base top 1 law 0 odds 3;cell max;cell max;" + sum.repeat(5) + "op more 0 1;op more 1 1;");
        fraction(243, 100000, five.chance(0), five.chance(1));
        five.drops(4);
        fraction(81, 10000, five.chance(0), five.chance(1));
        due(five.dropped(), 16);
        MergeJudge x = of(COUNTER);
        x.lock(0);
        x.lock(1);
        fraction(1, 1, x.chance(0), x.chance(1));
        says("65", "-2: there is none such, no BASE.");
        beyond(2, -2, x::chance);
        beyond(2, -2, of(EMPTY)::chance);
        beyond(0, -2, none()::chance);
    }

    private static void mean() {
        says("66", "The mean of VALID STATES, above, below.");
        // 3 and, with the RULE DROPPED, 4.
        fraction(33, 10, of(COUNTER).mean(0), of(COUNTER).mean(1));
        fraction(3, 1, of(COUNTER.replace("odds 3", "odds 0")).mean(0), of(COUNTER.replace("odds 3", "odds 0")).mean(1));
        fraction(4, 1, of(COUNTER.replace("odds 3", "odds 10")).mean(0), of(COUNTER.replace("odds 3", "odds 10")).mean(1));
        fraction(7, 2, of(COUNTER.replace("odds 3", "odds 5")).mean(0), of(COUNTER.replace("odds 3", "odds 5")).mean(1));
        fraction(29, 4, of(EXAMPLE).mean(0), of(EXAMPLE).mean(1));
        fraction(0, 1, of(NO_VALID).mean(0), of(NO_VALID).mean(1));
        fraction(1, 1, of(EMPTY).mean(0), of(EMPTY).mean(1));
        fraction(64, 1, of(FULL).mean(0), of(FULL).mean(1));
        MergeJudge x = of(COUNTER);
        x.drops(0);
        fraction(4, 1, x.mean(0), x.mean(1));
        says("66", "-2 likewise.");
        beyond(2, -2, x::mean);
        beyond(0, -2, none()::mean);
    }

    private static void drawn() {
        says("72", "AUDIT drawn (X) from a seed (0 .. 2,000,000,000), what 0: RULES that are DROPPED by it, as bits, "
                + "1: BREAKS in 1.");
        MergeJudge x = of(EXAMPLE);
        // Draws from 0: 0, 8; from 1: 8, 8; from 5: 5, 7; from 2,000,000,000: 4, 3 (odds are 5).
        due(x.drawn(0, 0), 1);
        due(x.drawn(1, 0), 0);
        due(x.drawn(5, 0), 0);
        due(x.drawn(2000000000, 0), 3);
        due(x.drawn(0, 1), 2);
        due(x.drawn(1, 1), 3);
        due(x.drawn(2000000000, 1), 0);
        due(x.dropped(), 0);
        due(x.all(1), 3);
        x.drops(1);
        due(x.drawn(0, 0), 1);
        due(x.drawn(0, 1), 0);
        due(x.drawn(1, 0), 0);
        due(x.drawn(1, 1), 3);
        due(of(EXAMPLE.replace("odds 5", "odds 0")).drawn(0, 0), 0);
        due(of(EXAMPLE.replace("odds 5", "odds 10")).drawn(1, 0), 3);
        due(of(EMPTY).drawn(0, 0), 0);
        due(of(EMPTY).drawn(2000000000, 1), 0);
        says("72", "-2: there are none such, no BASE.");
        for (int seed : new int[] {-1, MIN, 2000000001, MAX}) {
            due(x.drawn(seed, 0), -2);
            due(x.drawn(seed, 1), -2);
        }
        beyond(2, -2, what -> of(EXAMPLE).drawn(0, what));
        due(none().drawn(0, 0), -2);
        due(none().drawn(0, 1), -2);
    }

    private static void luck() {
        says("73", "Of n (1 .. 20) such from seeds, the seed and 1, .., in how many it is SAFE in 1.");
        MergeJudge x = of(COUNTER);
        // One RULE, odds 3: SAFE where the first draw is below 3. Draws from 0 on: 0, 8, 5, 3, 0, 5, 1, 6, ..
        int safe = 0;
        for (int n = 1; n <= 20; n++) {
            safe += firstDraw(n - 1) < 3 ? 1 : 0;
            due(x.luck(0, n), safe);
        }
        due(firstDraw(0), 0);
        due(firstDraw(1), 8);
        due(x.luck(0, 1), 1);
        due(x.luck(1, 1), 0);
        int last = 0;
        for (long seed = 2000000000L; seed < 2000000020L; seed++) {
            last += firstDraw(seed) < 3 ? 1 : 0;
        }
        due(x.luck(2000000000, 20), last);
        due(of(EMPTY).luck(0, 20), 20);
        due(of(TWO_STEPS).luck(0, 20), 20);
        due(of(EXAMPLE.replace("odds 5", "odds 0")).luck(0, 20), 0);
        due(of(EXAMPLE.replace("odds 5", "odds 10")).luck(0, 20), 20);
        x.drops(0);
        due(x.luck(1, 1), 1);
        x.undo();
        x.lock(0);
        x.lock(1);
        due(x.luck(1, 20), 20);
        due(x.dropped(), 0);
        says("73", "-2: there are none such, no BASE.");
        for (int n : new int[] {0, -1, MIN, 21, 33, MAX}) {
            due(x.luck(0, n), -2);
        }
        for (int seed : new int[] {-1, MIN, 2000000001, MAX}) {
            due(x.luck(seed, 1), -2);
            due(x.luck(seed, 20), -2);
        }
        due(none().luck(0, 1), -2);
    }

    private static long firstDraw(long seed) {
        return (1103515245L * seed + 12345) % 2147483648L / 65536 % 10;
    }
}
