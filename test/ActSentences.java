/** Promises 67 to 71 and 74 to 80: acts, counts, IMAGES, SLOTS. */
final class ActSentences extends Sentences {
    static void ask() {
        lock();
        frees();
        drops();
        undo();
        anew();
        rate();
        count();
        images();
        row();
        write();
        paste();
    }

    private static MergeJudge withActs(int acts) {
        MergeJudge x = of(COUNTER);
        for (int i = 0; i < acts; i++) {
            x.lock(1);
        }
        return x;
    }

    private static void lock() {
        says("67", "An OP is LOCKED (one that is already: an act, too): BREAKS in 1 then.");
        MergeJudge x = of(COUNTER);
        due(x.lock(1), 2);
        due(x.locked(), 2);
        due(x.count(6), 1);
        due(x.lock(1), 2);
        due(x.locked(), 2);
        due(x.count(6), 2);
        due(x.lock(0), 0);
        due(x.locked(), 3);
        due(x.undo(), 2);
        due(x.locked(), 2);
        due(x.undo(), 1);
        due(x.locked(), 2);
        due(x.undo(), 0);
        due(x.locked(), 0);
        due(of(FULL).lock(4), 0);
        due(withActs(19).lock(0), 0);
        says("67", "-2: there is none such;");
        beyond(2, -2, x::lock);
        due(x.count(6), 0);
        due(x.locked(), 0);
        beyond(5, -2, of(FULL)::lock);
        beyond(0, -2, of(EMPTY)::lock);
        beyond(0, -2, none()::lock);
        beyond(2, -2, withActs(20)::lock);
        says("67", "-5: there are 20 acts (not taken back).");
        MergeJudge y = withActs(20);
        due(y.count(6), 20);
        due(y.lock(0), -5);
        due(y.lock(1), -5);
        due(y.count(6), 20);
        due(y.locked(), 2);
        due(y.undo(), 19);
        due(y.lock(0), 0);
        due(y.count(6), 20);
        due(y.lock(0), -5);
        due(y.anew(), 20);
        due(y.lock(0), 2);
    }

    private static void frees() {
        says("68", "A LOCKED OP is not LOCKED any more (one that is not: nothing): likewise.");
        MergeJudge x = of(COUNTER);
        due(x.frees(0), 3);
        due(x.count(6), 0);
        due(x.undo(), -5);
        x.lock(0);
        x.lock(1);
        due(x.frees(0), 2);
        due(x.locked(), 2);
        due(x.count(6), 3);
        due(x.frees(0), 2);
        due(x.count(6), 3);
        due(x.frees(1), 3);
        due(x.locked(), 0);
        due(x.count(6), 4);
        due(x.undo(), 3);
        due(x.locked(), 2);
        due(x.undo(), 2);
        due(x.locked(), 3);
        // LOCKED twice, freed once.
        x = of(COUNTER);
        x.lock(1);
        x.lock(1);
        due(x.frees(1), 3);
        due(x.locked(), 0);
        due(x.count(6), 3);
        due(withActs(19).frees(1), 3);
        due(withActs(19).frees(0), 2);
        says("68", "-2, -5 likewise.");
        beyond(2, -2, x::frees);
        due(x.count(6), 3);
        beyond(5, -2, of(FULL)::frees);
        beyond(0, -2, of(EMPTY)::frees);
        beyond(0, -2, none()::frees);
        MergeJudge y = withActs(20);
        beyond(2, -2, y::frees);
        due(y.frees(1), -5);
        due(y.frees(0), -5);
        due(y.locked(), 2);
        due(y.count(6), 20);
        due(y.undo(), 19);
        due(y.frees(1), 3);
    }

    private static void drops() {
        says("69", "A RULE is DROPPED: likewise.");
        MergeJudge x = of(EXAMPLE);
        due(x.drops(0), 2);
        due(x.dropped(), 1);
        due(x.valids(), 8);
        due(x.count(6), 1);
        due(x.drops(0), 2);
        due(x.count(6), 2);
        due(x.drops(1), 0);
        due(x.dropped(), 3);
        due(x.valids(), 9);
        due(x.undo(), 2);
        due(x.dropped(), 1);
        due(x.undo(), 1);
        due(x.dropped(), 1);
        due(x.undo(), 0);
        due(x.dropped(), 0);
        due(x.valids(), 6);
        due(of(FULL).drops(4), 0);
        due(withActs(19).drops(0), 0);
        says("69", "-2, -5 likewise.");
        beyond(2, -2, x::drops);
        due(x.count(6), 0);
        due(x.dropped(), 0);
        beyond(5, -2, of(FULL)::drops);
        beyond(0, -2, of(EMPTY)::drops);
        beyond(0, -2, none()::drops);
        MergeJudge y = withActs(20);
        beyond(1, -2, y::drops);
        due(y.drops(0), -5);
        due(y.dropped(), 0);
        due(y.count(6), 20);
        due(y.undo(), 19);
        due(y.drops(0), 0);
        due(y.drops(0), -5);
    }

    private static void undo() {
        says("70", "The latest act is taken back (what it changed is as it was ahead of it): how many there are.");
        MergeJudge x = of(COUNTER);
        x.lock(0);
        x.drops(0);
        x.lock(0);
        x.frees(0);
        due(x.locked(), 0);
        due(x.undo(), 3);
        due(x.locked(), 1);
        due(x.dropped(), 1);
        due(x.undo(), 2);
        due(x.locked(), 1);
        due(x.undo(), 1);
        due(x.dropped(), 0);
        due(x.valids(), 3);
        due(x.all(1), 2);
        due(x.undo(), 0);
        due(x.locked(), 0);
        due(x.all(1), 3);
        MergeJudge y = withActs(20);
        for (int left = 19; left >= 0; left--) {
            due(y.undo(), left);
            due(y.locked(), left == 0 ? 0 : 2);
        }
        says("70", "-2: there is no BASE;");
        due(none().undo(), -2);
        MergeJudge z = withActs(2);
        z.base();
        due(z.undo(), -2);
        says("70", "-5: there is none.");
        due(x.undo(), -5);
        due(y.undo(), -5);
        due(of(EMPTY).undo(), -5);
        y.lock(0);
        y.anew();
        due(y.undo(), -5);
    }

    private static void anew() {
        says("71", "All are: how many there were.");
        MergeJudge x = of(EXAMPLE);
        due(x.anew(), 0);
        x.lock(1);
        x.drops(0);
        x.drops(1);
        x.frees(1);
        due(x.anew(), 4);
        due(x.locked(), 0);
        due(x.dropped(), 0);
        due(x.valids(), 6);
        due(x.all(1), 3);
        due(x.count(6), 0);
        due(x.anew(), 0);
        due(withActs(20).anew(), 20);
        due(withActs(1).anew(), 1);
        due(of(EMPTY).anew(), 0);
        MergeJudge y = withActs(20);
        y.undo();
        due(y.anew(), 19);
        says("71", "-2 likewise.");
        due(none().anew(), -2);
        y.lock(0);
        y.base();
        due(y.anew(), -2);
    }

    private static void rate() {
        says("74", "A CELL is merged by a kind (0 .. 3) from now on: by which it was.");
        MergeJudge x = of(COUNTER);
        int former = 2;
        for (int kind : new int[] {0, 1, 3, 3, 2}) {
            due(x.rate(0, kind), former);
            due(x.cell(0), kind);
            former = kind;
        }
        x.rate(0, 0);
        due(x.all(1), 0);
        due(x.merge(0, 1, 2), 2);
        x.rate(0, 1);
        due(x.merge(0, 1, 2), 1);
        x.rate(0, 3);
        due(x.merge(0, 2, 1), 2);
        x.rate(0, 2);
        due(x.all(1), 3);
        MergeJudge y = of(FULL);
        due(y.rate(2, 2), 3);
        due(y.rate(1, 2), 1);
        due(y.rate(0, 2), 0);
        // 1, 1, 1 twice from 0, 0, 0.
        due(y.merge(0, 21, 21), 42);
        tell(y, FULL);
        due(y.cell(2), 3);
        says("74", "-2: there are none such;");
        beyond(1, -2, cell -> of(COUNTER).rate(cell, 0));
        beyond(4, -2, kind -> of(COUNTER).rate(0, kind));
        beyond(3, -2, cell -> of(FULL).rate(cell, 0));
        beyond(0, -2, cell -> of(EMPTY).rate(cell, 0));
        beyond(0, -2, cell -> none().rate(cell, 0));
        beyond(1, -2, cell -> withActs(1).rate(cell, 0));
        beyond(4, -2, kind -> withActs(1).rate(0, kind));
        says("74", "-5: there are acts that are not taken back.");
        MergeJudge z = withActs(1);
        due(z.rate(0, 0), -5);
        due(z.rate(0, 2), -5);
        due(z.cell(0), 2);
        z.undo();
        due(z.rate(0, 0), 2);
        due(withActs(20).rate(0, 0), -5);
        z.drops(0);
        due(z.rate(0, 0), -5);
        z.anew();
        due(z.rate(0, 1), 0);
    }

    private static void count() {
        says("75", "0 top, 1 LAW, 2 odds, 3 CELLS, 4 RULES, 5 OPS, 6 acts, 7 LINES, 8 bytes of the TAPE, 9 SLOTS that have a row.");
        MergeJudge x = of("base top 2 law 3 odds 7;cell max;cell add;rule most 1 1;rule sum 0 1 3;rule most 0 2;op more 0 1;");
        x.lock(0);
        x.lock(0);
        x.feed(0, 0, 0, 0, 0);
        x.row(3, 0, 0);
        x.row(1, 3, 60);
        x.row(1, 0, 1);
        int[] counts = {2, 3, 7, 2, 3, 1, 2, 7, 20, 2};
        for (int what = 0; what <= 9; what++) {
            due(x.count(what), counts[what]);
        }
        int[] full = {3, 1, 10, 3, 5, 5, 0, 14, 0, 0};
        int[] empty = {1, 3, 10, 0, 0, 0, 0, 1, 0, 0};
        for (int what = 0; what <= 9; what++) {
            due(of(FULL).count(what), full[what]);
            due(of(EMPTY).count(what), empty[what]);
        }
        MergeJudge y = none();
        for (int slot = 0; slot < 4; slot++) {
            y.row(slot, 0, 0);
            due(y.count(9), slot + 1);
        }
        for (int i = 1; i <= 20; i++) {
            y.feed(0, 0, 0, 0, 0);
            due(y.count(8), 20 * i);
        }
        says("75", "NONE for others.");
        beyond(10, -1, x::count);
        beyond(10, -1, none()::count);
    }

    private static void images() {
        says("76", "IMAGE k (0 .. 2) keeps the BASE, and acts: 0.");
        MergeJudge x = of(EXAMPLE);
        x.lock(1);
        x.drops(0);
        for (int k = 0; k <= 2; k++) {
            due(x.image(k), 0);
        }
        x.undo();
        due(x.image(1), 0);
        x.anew();
        x.rate(0, 3);
        due(x.image(2), 0);
        due(tell(x, COUNTER), 5);
        due(x.back(0), 0);
        due(x.count(6), 2);
        due(x.locked(), 2);
        due(x.dropped(), 1);
        due(x.cell(0), 0);
        due(x.back(1), 0);
        due(x.count(6), 1);
        due(x.dropped(), 0);
        due(x.back(2), 0);
        due(x.count(6), 0);
        due(x.cell(0), 3);
        due(none().image(0), 0);
        says("76", "-2: no such k.");
        beyond(3, -2, x::image);
        beyond(3, -2, none()::image);
        says("77", "It is as IMAGE k has it: 0.");
        MergeJudge y = of(EXAMPLE);
        y.lock(1);
        y.drops(0);
        y.image(1);
        // What comes behind it is not in it.
        y.drops(1);
        y.lock(0);
        due(y.back(1), 0);
        due(y.count(6), 2);
        due(y.all(1), 1);
        due(y.valids(), 8);
        due(y.undo(), 1);
        due(y.dropped(), 0);
        due(y.undo(), 0);
        due(y.locked(), 0);
        due(y.rate(1, 0), 2);
        // It has it still, as often as it is gone back to.
        due(y.back(1), 0);
        due(y.cell(1), 2);
        due(y.locked(), 2);
        due(y.back(1), 0);
        due(y.count(6), 2);
        y.base();
        due(y.states(), -2);
        due(y.back(1), 0);
        due(y.states(), 9);
        due(y.does(0, 0), 1);
        due(y.merge(0, 3, 3), 6);
        due(y.undo(), 1);
        // An image of what an image was gone back to, and one in place of another.
        due(y.image(0), 0);
        tell(y, COUNTER);
        due(y.image(1), 0);
        due(y.back(0), 0);
        due(y.count(6), 1);
        due(y.back(1), 0);
        due(y.states(), 4);
        // What was ahead of each act is of it, too.
        y = of(EXAMPLE);
        y.lock(1);
        y.drops(0);
        y.image(0);
        y.anew();
        y.drops(1);
        y.lock(0);
        y.image(1);
        due(y.back(0), 0);
        due(y.undo(), 1);
        due(y.dropped(), 0);
        due(y.locked(), 2);
        due(y.undo(), 0);
        due(y.locked(), 0);
        due(y.back(1), 0);
        due(y.undo(), 1);
        due(y.dropped(), 2);
        due(y.locked(), 0);
        // Twenty acts.
        MergeJudge z = withActs(20);
        z.image(2);
        z.anew();
        due(z.back(2), 0);
        due(z.lock(0), -5);
        due(z.anew(), 20);
        due(z.all(1), 3);
        // The TAPE, the SLOTS and the FAULT are not of it.
        z.image(0);
        z.feed(0, 0, 0, 0, 0);
        z.base();
        z.feed(0, 0, 0, 0, 0);
        z.row(2, 0, 0);
        due(z.back(0), 0);
        due(z.count(8), 20);
        due(z.count(9), 1);
        due(z.fault(0), 1);
        // One without a BASE.
        MergeJudge w = none();
        w.image(0);
        tell(w, EXAMPLE);
        due(w.back(0), 0);
        due(w.states(), -2);
        due(w.count(7), 0);
        says("77", "-2: no such k;");
        beyond(3, -2, y::back);
        beyond(3, -2, none()::back);
        says("77", "-6: it has nothing.");
        MergeJudge v = of(COUNTER);
        for (int k = 0; k <= 2; k++) {
            due(v.back(k), -6);
        }
        v.lock(0);
        v.image(1);
        due(v.back(0), -6);
        due(v.back(2), -6);
        due(v.count(6), 1);
        due(v.states(), 4);
    }

    private static void row() {
        says("78", "A SLOT (0 .. 3) has a row of n numbers of a WIDTH, all 0 (in place of another one): 0.");
        MergeJudge x = of(LADDER);
        for (int slot = 0; slot <= 3; slot++) {
            for (int width = 0; width <= 3; width++) {
                due(x.row(slot, width, 60), 0);
                due(x.fits(slot), 4);
                due(x.write(slot, 59, 1), 0);
                due(x.write(slot, 60, 1), -7);
                due(x.fits(slot), 0);
                due(x.row(slot, width, 0), 0);
                due(x.write(slot, 0, 1), -7);
                due(x.fits(slot), 4);
            }
        }
        due(x.count(9), 4);
        // Of another WIDTH, and all 0 again.
        write(x, 0, 3, 1L << 40, 0, 0);
        due(x.fits(0), -2);
        due(x.row(0, 0, 3), 0);
        due(x.fits(0), 4);
        write(x, 0, 0, 1, 1, 3);
        due(x.fits(0), 0);
        due(x.row(0, 0, 3), 0);
        due(x.fits(0), 4);
        due(x.row(0, 0, 2), 0);
        due(x.row(0, 0, 3), 0);
        due(x.fits(0), 4);
        due(none().row(3, 3, 60), 0);
        says("78", "-2: there is no such SLOT or WIDTH (0 .. 3), or n is above 60;");
        MergeJudge y = of(LADDER);
        beyond(4, -2, slot -> y.row(slot, 0, 1));
        beyond(4, -2, width -> y.row(0, width, 1));
        for (int n : new int[] {61, 64, 256, MAX}) {
            due(y.row(0, 0, n), -2);
        }
        due(y.row(0, 4, -1), -2);
        due(y.row(4, 0, -1), -2);
        due(y.count(9), 0);
        write(y, 0, 1, 1, 1, 3);
        due(y.row(0, 4, 3), -2);
        due(y.row(0, 1, 61), -2);
        due(y.fits(0), 0);
        says("78", "-3, and the SLOT stays: n is below 0.");
        due(y.row(0, 0, -1), -3);
        due(y.row(0, 3, MIN), -3);
        due(y.fits(0), 0);
        due(y.write(0, 2, 1), 0);
        due(y.fits(0), 4);
        // The WIDTH stays, too.
        due(y.write(0, 2, 65536 + 1), 0);
        due(y.fits(0), 4);
        due(y.row(1, 0, -1), -3);
        due(y.fits(1), -6);
        due(y.count(9), 1);
    }

    private static void write() {
        says("79", "Number i of the SLOT's row is v, cut to its WIDTH: 0.");
        MergeJudge x = of(LADDER);
        for (int i = 0; i < 60; i++) {
            x.row(0, 0, 60);
            due(x.write(0, i, 3), 0);
            // A side of 3 does not come to 0, and sides of 0 do not come to 3.
            due(x.fits(0), 0);
            due(x.write(0, i, 0), 0);
            due(x.fits(0), 4);
        }
        int[] bits = {8, 16, 32};
        for (int width = 0; width < 3; width++) {
            long over = 1L << bits[width];
            for (long v : new long[] {2 + over, 2 - over, 2 + (over << 1), 2 + (1L << 62), 2 + Long.MIN_VALUE}) {
                write(x, 0, width, v, 0, 2);
                due(x.fits(0), 4);
            }
            // One bit less is not cut off.
            write(x, 0, width, 2 + (over >> 1), 0, 2);
            due(x.fits(0), -2);
            write(x, 0, width, 2 + over - 1 - 2, 0, 2);
            due(x.fits(0), -2);
        }
        for (long v : new long[] {2 + (1L << 32), 2 + (1L << 62), 2 + Long.MIN_VALUE, -1, Long.MAX_VALUE}) {
            write(x, 0, 3, v, 0, 2);
            due(x.fits(0), -2);
        }
        write(x, 0, 3, 2, 0, 2);
        due(x.fits(0), 4);
        MergeJudge y = none();
        y.row(0, 0, 1);
        due(y.write(0, 0, 5), 0);
        says("79", "-2: there is no such SLOT;");
        beyond(4, -2, slot -> x.write(slot, 0, 0));
        beyond(4, -2, slot -> none().write(slot, 99, 0));
        says("79", "-6: it has nothing;");
        for (int slot = 0; slot <= 3; slot++) {
            due(of(LADDER).write(slot, 0, 0), -6);
            due(of(LADDER).write(slot, -1, 0), -6);
            due(of(LADDER).write(slot, 60, 0), -6);
        }
        says("79", "-7: there is no such number.");
        x.row(1, 0, 3);
        beyond(3, -7, i -> x.write(1, i, 1));
        due(x.fits(1), 4);
        x.row(1, 0, 60);
        beyond(60, -7, i -> x.write(1, i, 1));
        due(x.fits(1), 4);
        x.row(1, 0, 0);
        beyond(0, -7, i -> x.write(1, i, 1));
    }

    /** Whether a SLOT's row (a byte a number) has these numbers: three of them are pasted aside and read as SEEN. */
    private static void has(MergeJudge x, int slot, int... numbers) {
        for (int i = 0; i < numbers.length; i++) {
            write(x, 3, 0, numbers[i], numbers[i], 0);
            due(x.paste(slot, i, 3, 2, 1), 0);
            due(x.fits(3), 4);
        }
        due(x.write(slot, numbers.length, 0), -7);
    }

    private static void paste() {
        says("80", "So many numbers of a SLOT's row, from one on, are put to another one's (or its own), from one on, as they were: 0.");
        MergeJudge x = of(LADDER);
        write(x, 0, 0, 1, 2, 2, 3, 0, 3);
        write(x, 1, 0, 0, 0, 0, 0);
        due(x.paste(0, 1, 1, 2, 2), 0);
        has(x, 1, 0, 0, 2, 2);
        has(x, 0, 1, 2, 2, 3, 0, 3);
        due(x.paste(0, 2, 1, 0, 4), 0);
        has(x, 1, 2, 3, 0, 3);
        due(x.paste(1, 0, 0, 0, 1), 0);
        has(x, 0, 2, 2, 2, 3, 0, 3);
        // Its own, onto itself: up, down, in place.
        write(x, 0, 0, 1, 2, 2, 3, 0, 3);
        due(x.paste(0, 0, 0, 1, 5), 0);
        has(x, 0, 1, 1, 2, 2, 3, 0);
        write(x, 0, 0, 1, 2, 2, 3, 0, 3);
        due(x.paste(0, 1, 0, 0, 5), 0);
        has(x, 0, 2, 2, 3, 0, 3, 3);
        due(x.paste(0, 0, 0, 0, 6), 0);
        has(x, 0, 2, 2, 3, 0, 3, 3);
        due(x.paste(0, 5, 0, 0, 0), 0);
        has(x, 0, 2, 2, 3, 0, 3, 3);
        MergeJudge y = of(LADDER);
        for (int width = 0; width <= 3; width++) {
            y.row(0, width, 60);
            y.row(1, width, 60);
            due(y.paste(0, 0, 1, 0, 60), 0);
            due(y.paste(1, 60, 1, 60, 0), 0);
            due(y.paste(1, 59, 0, 0, 1), 0);
        }
        // What is wide stays wide.
        write(y, 0, 3, 1L << 40, 2, 2);
        write(y, 1, 3, 0, 0, 0);
        due(y.paste(0, 0, 1, 0, 1), 0);
        due(y.fits(1), -2);
        says("80", "-2: there is no such SLOT;");
        beyond(4, -2, slot -> y.paste(slot, 0, 0, 0, 0));
        beyond(4, -2, slot -> y.paste(0, 0, slot, 0, 0));
        beyond(4, -2, slot -> none().paste(slot, -1, 0, -1, -1));
        beyond(4, -2, slot -> none().paste(0, -1, slot, -1, -1));
        says("80", "-6: one has nothing;");
        MergeJudge z = of(LADDER);
        z.row(0, 0, 3);
        due(z.paste(0, 0, 1, 0, 0), -6);
        due(z.paste(1, 0, 0, 0, 0), -6);
        due(z.paste(1, 0, 1, 0, 0), -6);
        due(z.paste(0, -1, 3, 99, MIN), -6);
        says("80", "-8: they are not of one WIDTH;");
        for (int width = 0; width <= 3; width++) {
            for (int other = 0; other <= 3; other++) {
                z.row(0, width, 3);
                z.row(1, other, 3);
                due(z.paste(0, 0, 1, 0, 3), width == other ? 0 : -8);
                due(z.paste(0, -1, 1, 0, 3), width == other ? -7 : -8);
            }
        }
        says("80", "-7, and nothing happens: some are beyond their rows (also where n is 0: a place above how many it has), "
                + "or a place or n is below 0.");
        write(x, 0, 0, 1, 2, 2, 3, 0, 3);
        write(x, 1, 0, 0, 0, 0);
        int[][] refused = {{0, 0, 4}, {4, 0, 3}, {3, 0, 4}, {0, 1, 3}, {0, 3, 1}, {6, 0, 1}, {7, 0, 0}, {0, 4, 0},
            {7, 4, 0}, {-1, 0, 0}, {0, -1, 0}, {0, 0, -1}, {-1, 0, 2}, {0, -1, 2}, {6, 3, -1}, {1, 1, MAX}, {MAX, 0, 1},
            {0, MAX, 1}, {MAX, MAX, MAX}, {MAX, 0, 0}, {0, MAX, 0}, {0, 0, MIN}, {MIN, 0, MIN}, {MIN, MIN, 1},
            {1, 0, MAX}, {0, 0, MAX - 1}, {3, 2, MAX - 2}};
        for (int[] call : refused) {
            due(x.paste(0, call[0], 1, call[1], call[2]), -7);
        }
        has(x, 0, 1, 2, 2, 3, 0, 3);
        has(x, 1, 0, 0, 0);
        due(x.paste(0, 6, 1, 3, 0), 0);
        due(x.paste(0, 0, 1, 3, 0), 0);
        due(x.paste(0, 6, 1, 0, 0), 0);
        due(x.paste(0, 3, 1, 0, 3), 0);
        has(x, 1, 3, 0, 3);
        x.row(2, 0, 0);
        due(x.paste(2, 0, 1, 0, 0), 0);
        due(x.paste(2, 0, 1, 0, 1), -7);
        due(x.paste(1, 0, 2, 0, 1), -7);
        due(x.paste(2, 1, 1, 0, 0), -7);
        has(x, 1, 3, 0, 3);
    }
}
