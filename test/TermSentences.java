/** The TERMS I to X and the two blocks of text behind I and II, sentence by sentence. */
final class TermSentences extends Sentences {
    private static final String THREE = "base top 3 law 0 odds 0;cell max;cell max;";
    private static final int[] TOPS = {1, 2, 3};

    static void ask() {
        lines();
        bounds();
        tokens();
        faults();
        slots();
        states();
        rules();
        ops();
        merges();
        reached();
        smallest();
        forms();
        shares();
        game();
        chance();
    }

    private static void lines() {
        says("I", "BASE: {LINE ;}.");
        due(tell(none(), ""), 0);
        good(HEAD);
        good(FULL);
        due(of(FULL).count(7), 14);
        fault(1, "", ";");
        fault(1, HEAD, ";");
        fault(1, HEAD + "cell max;", ";cell max;");
        fault(1, "base top 1 law 0 odds 0", "");
        fault(1, HEAD + "cell max ", "cell max;");
        fault(1, HEAD + "cell max", "");
        says("I", "LINE: base top N law N odds N | cell M | rule R | op O.");
        fault(1, "base ", "law 0 top 1 odds 0;");
        fault(1, "base top 1 ", "odds 0 law 0;");
        fault(1, "base top 1 law 0 ", ";");
        fault(1, "base top ", "law 0 odds 0;");
        fault(1, "base top 1 law 0 odds ", ";");
        fault(1, "base top 1 law 0 odds 0 ", "0;");
        fault(1, HEAD, "max;");
        fault(1, HEAD, "cells max;");
        fault(1, HEAD, "rul most 0 1;");
        fault(1, HEAD, "o more 0 1;");
        fault(1, HEAD, "0;");
        fault(1, HEAD + "cell ", ";");
        fault(1, HEAD + "rule ", "0 1;");
        fault(1, HEAD + "op ", "");
        says("I", "M: max | min | add | late.");
        MergeJudge x = of(HEAD + "cell late;cell add;cell min;");
        due(x.cell(0), 3);
        due(x.cell(1), 2);
        due(x.cell(2), 1);
        due(of(HEAD + "cell max;").cell(0), 0);
        for (String kind : new String[] {"most;", "maxi;", "ma;", "lat;", "lates;", "adds;", "0;", "max0;"}) {
            int at = kind.equals("max0;") ? 3 : 0;
            fault(1, HEAD + "cell " + kind.substring(0, at), kind.substring(at));
        }
        says("I", "R: most A N | least A N | unlike A B | sum A B N | order A B | if A N B K.");
        String[] rules = {"most 0 1", "least 0 1", "unlike 0 1", "sum 0 1 1", "order 0 1", "if 0 1 1 1"};
        for (int kind = 0; kind < 6; kind++) {
            numbersOf("rule ", rules[kind]);
            due(of(THREE + "rule " + rules[kind] + ";").rule(0, 0), kind);
        }
        for (String kind : new String[] {"more", "mos", "leasts", "like", "sums", "iff", "i"}) {
            fault(1, THREE + "rule ", kind + " 0 1;");
        }
        says("I", "O: more A N | less A N | set A N | move A B N.");
        String[] ops = {"more 0 1", "less 0 1", "set 0 1", "move 0 1 1"};
        for (int kind = 0; kind < 4; kind++) {
            numbersOf("op ", ops[kind]);
            due(of(THREE + "op " + ops[kind] + ";").op(0, 0), kind);
        }
        for (String kind : new String[] {"most", "mor", "lesser", "sets", "moves", "mov"}) {
            fault(1, THREE + "op ", kind + " 0 1;");
        }
    }

    /** As many numbers as there are, none less, none more. */
    private static void numbersOf(String word, String line) {
        good(THREE + word + line + ";");
        fault(1, THREE + word + line.substring(0, line.length() - 1), ";");
        fault(1, THREE + word + line.substring(0, line.length() - 1), "max;");
        fault(1, THREE + word + line + " ", "1;");
        fault(1, THREE + word + line, "");
    }

    private static void bounds() {
        says("I", "base is the first LINE and no other:");
        fault(1, "", "cell max;");
        fault(1, "", "rule most 0 1;");
        fault(1, "", "op more 0 1;");
        fault(1, HEAD, HEAD);
        fault(1, HEAD + "cell max;", HEAD);
        fault(1, HEAD + "cell max;op set 0 0;", "base");
        says("I", "top 1 .. 3,");
        for (int top : TOPS) {
            due(of("base top " + top + " law 0 odds 0;").count(0), top);
        }
        outOfBounds("base top ", "0 4 9 10 257 4294967297 4294967298 18446744073709551617");
        says("I", "law 0 .. 3,");
        for (int law = 0; law <= 3; law++) {
            due(of("base top 1 law " + law + " odds 0;").count(1), law);
        }
        outOfBounds("base top 1 law ", "4 10 256 4294967296 18446744073709551616 99999999999999999999999999999999999");
        says("I", "odds 0 .. 10.");
        for (int odds = 0; odds <= 10; odds++) {
            due(of("base top 1 law 0 odds " + odds + ";").count(2), odds);
        }
        outOfBounds("base top 1 law 0 odds ", "11 100 1000 1001 1010 4294967296 4294967306");
        says("I", "A, B: CELLS told ahead");
        good(HEAD + "cell max;rule most 0 1;cell max;rule most 1 1;cell max;rule order 2 1;op move 0 2 1;");
        fault(2, HEAD + "rule most ", "0 0;cell max;");
        fault(2, HEAD + "rule unlike ", "0 1;");
        fault(2, HEAD + "op set ", "0 0;cell max;");
        for (String line : new String[] {"rule most ", "rule least ", "rule unlike ", "rule sum ", "rule order ",
            "rule if ", "op more ", "op less ", "op set ", "op move "}) {
            fault(2, THREE + line, "2 1 1 1;cell max;");
            fault(2, THREE + "cell max;" + line, "3 1 1 1;");
            fault(2, THREE + line, "4294967296 1 1 1;");
        }
        for (String line : new String[] {"rule unlike 0 ", "rule sum 0 ", "rule order 1 ", "rule if 0 1 ", "op move 0 "}) {
            fault(2, THREE + line, "2 1;cell max;");
            fault(2, THREE + "cell max;" + line, "3 1;");
            fault(2, THREE + line, "4294967297 1;");
        }
        says("I", "(B another one than A, but in if);");
        for (String line : new String[] {"rule unlike ", "rule sum ", "rule order ", "op move "}) {
            fault(2, THREE + line + "0 ", "0 1;");
            fault(2, THREE + line + "1 ", "1 1;");
            fault(2, THREE + line + "1 ", "01 1;");
        }
        good(THREE + "rule if 0 1 0 1;rule if 1 1 1 0;");
        numbers();
    }

    private static void numbers() {
        says("I", "N, K 0 .. top,");
        for (int top : TOPS) {
            String head = "base top " + top + " law 0 odds 0;cell max;";
            for (String line : new String[] {"rule most 0 ", "rule least 0 ", "rule if 0 1 0 ", "op set 0 "}) {
                good(head + line + "0;");
                good(head + line + top + ";");
                fault(2, head + line, top + 1 + ";");
                fault(2, head + line, "4294967296;");
            }
            good(head + "rule if 0 0 0 0;");
            good(head + "rule if 0 " + top + " 0 0;");
            fault(2, head + "rule if 0 ", top + 1 + " 0 0;");
        }
        says("I", "of sum 0 .. 6,");
        for (int top : TOPS) {
            String head = "base top " + top + " law 0 odds 0;cell max;cell max;rule sum 0 1 ";
            good(head + "0;");
            good(head + "6;");
            fault(2, head, "7;");
            fault(2, head, "4294967296;");
        }
        says("I", "of more, less, move 1 .. top.");
        for (int top : TOPS) {
            String head = "base top " + top + " law 0 odds 0;cell max;cell max;";
            for (String line : new String[] {"op more 0 ", "op less 1 ", "op move 1 0 "}) {
                good(head + line + "1;");
                good(head + line + top + ";");
                fault(2, head + line, "0;");
                fault(2, head + line, top + 1 + ";");
                fault(2, head + line, "4294967297;");
            }
        }
        says("I", "CELLS 0 .. 2, RULES 0 .. 4, OPS 0 .. 4 are numbered as they stand.");
        MergeJudge x = of("base top 3 law 0 odds 0;cell late;op set 0 1;rule most 0 2;cell min;rule order 1 0;"
                + "op less 1 2;cell add;op move 2 0 3;");
        due(x.cell(0), 3);
        due(x.cell(1), 1);
        due(x.cell(2), 2);
        due(x.rule(0, 0), 0);
        due(x.rule(1, 0), 4);
        due(x.op(0, 0), 2);
        due(x.op(1, 0), 1);
        due(x.op(2, 0), 3);
        due(x.op(2, 3), 3);
        x = of(FULL);
        due(x.rule(4, 0), 0);
        due(x.rule(4, 1), 2);
        due(x.op(4, 0), 3);
        beyond(3, -2, x::cell);
        beyond(5, -2, rule -> of(FULL).rule(rule, 0));
        beyond(5, -2, op -> of(FULL).op(op, 0));
    }

    private static void outOfBounds(String ahead, String numbers) {
        for (String number : numbers.split(" ")) {
            fault(2, ahead, number + " law 0 odds 0;");
        }
    }

    private static void tokens() {
        says("TOKENS", "TOKENS, blanks (32, 10) aside, the longest:");
        good("base  top\n1 law \n\n 0 odds 0 ;\n");
        good("\n base top1law0odds0;cell max ; cell\nmin\n;");
        due(tell(none(), " \n\n "), 0);
        for (char sign : new char[] {0, 1, 9, 11, 12, 13, 31, 33, 127, 128, 160, 255}) {
            fault(1, "base ", sign + "top 1 law 0 odds 0;");
            fault(1, HEAD, "" + sign);
        }
        fault(1, "", "basetop 1 law 0 odds 0;");
        fault(1, HEAD, "cellmax;");
        fault(1, HEAD + "cell ", "m ax;");
        fault(2, "base top ", "11 law 0 odds 0;");
        fault(1, "base top 1 ", "1 law 0 odds 0;");
        fault(1, "base top 1 law 0 odds 1 ", "0;");
        due(of("base top 1 law 0 odds 10;").count(2), 10);
        says("TOKENS", "words (a .. z),");
        for (String word : new String[] {"`", "{", "Cell max;", "\u00e3ell max;", "CELL max;", "@", "["}) {
            fault(1, HEAD, word);
        }
        fault(1, HEAD + "cell ", "mAx;");
        fault(1, HEAD + "cell max", "`;");
        fault(1, HEAD + "cell max", "{;");
        fault(1, HEAD, "zell max;");
        fault(1, HEAD, "cellz max;");
        fault(1, HEAD, "cella max;");
        fault(1, HEAD, "azaz;");
        says("TOKENS", "numbers (digits),");
        good("base top 01 law 000 odds 0000000000000000000000000000000000000000000010;");
        for (String number : new String[] {"/", ":", "-1", "+1", ".1", "\u00b1", "x", "a1"}) {
            fault(1, "base top ", number + " law 0 odds 0;");
        }
        fault(1, "base top 1", "/ law 0 odds 0;");
        fault(1, "base top 1", ": law 0 odds 0;");
        fault(1, "base top 1", ".0 law 0 odds 0;");
        fault(2, "base top ", "9 law 0 odds 0;");
        says("TOKENS", "the sign ; .");
        for (String sign : new String[] {",", ":", "<", ".", "\u00bb"}) {
            fault(1, "base top 1 law 0 odds 0", sign);
        }
        good("base top 1 law 0 odds 0;");
    }

    private static void faults() {
        says("FAULTS", "FAULTS, the first by its place (a TOKEN's first byte; the end's),");
        fault(2, "base top ", "4 law 9 odds 99;?");
        fault(1, "base top 1 ", "? law 4 odds 0;");
        fault(2, "base top 1 law ", "4 odds ?;");
        fault(2, "base top ", "0004 law");
        fault(1, HEAD + "cell ", "maxmax;");
        fault(3, HEAD + "cell max;".repeat(3), "cell max;?");
        fault(2, HEAD + "cell max;".repeat(3) + "op set ", "7 0;cell max;");
        fault(1, "base top 1", "");
        fault(1, "base top 1 \n", "");
        fault(1, "base" + " ".repeat(396), "");
        fault(1, " ".repeat(399), "?");
        fault(1, "", "b".repeat(400));
        fault(1, "", "1".repeat(400));
        fault(2, "base top ", "1".repeat(391));
        says("FAULTS", "of one place the least:");
        fault(1, HEAD + "cell max;cell max;cell max ", "cell max;");
        fault(1, HEAD + "cell max;" + "rule most 0 1;".repeat(4) + "rule most 0 ", "rule most 0 1;");
        fault(1, HEAD + "cell max;" + "op set 0 1;".repeat(5) + "cell max ", "op set 0 1;");
        says("FAULTS", "1 a TOKEN that is none,");
        fault(1, "", "?");
        fault(1, HEAD, "#");
        fault(1, "base top 1 law 0 odds 0", "\u00ff;");
        fault(1, HEAD + "cell max;rule most 0 ", "\u0000;");
        says("FAULTS", "or can't stand there");
        fault(1, "", "7");
        fault(1, "base ", "base");
        fault(1, "base top ", "top");
        fault(1, HEAD, "7;");
        fault(1, HEAD + "cell max;rule most ", "cell 0;");
        fault(1, HEAD + "cell max;rule most 0 ", "max;");
        fault(1, HEAD + "cell max;rule most 0 1", "cell min;");
        says("FAULTS", "(base behind the first LINE, another word ahead of it).");
        fault(1, HEAD, "base");
        fault(1, HEAD + "cell max;", HEAD);
        fault(1, "", "cell max;" + HEAD);
        fault(1, "", "top 1 law 0 odds 0;");
        says("FAULTS", "2 a number out of its bounds,");
        fault(2, "base top ", "0");
        fault(2, "base top 1 law ", "4");
        fault(2, "base top 1 law 0 odds ", "11");
        fault(2, HEAD + "cell max;rule most 0 ", "2");
        fault(2, HEAD + "cell max;op less 0 ", "0");
        says("FAULTS", "not as said.");
        fault(2, HEAD + "op set ", "0 0;");
        fault(2, HEAD + "cell max;op move 0 ", "0");
        fault(2, THREE + "rule order 1 ", "1");
        says("FAULTS", "3 a 4th cell, 6th rule, 6th op, at its word.");
        String cells = HEAD + "cell max;".repeat(3);
        good(cells);
        good(cells + "rule most 0 1;".repeat(5));
        good(cells + "op set 0 1;".repeat(5));
        for (String rest : new String[] {" max;", " huh;", "", ";", " 0", "?"}) {
            fault(3, cells, "cell" + rest);
            fault(3, cells + "rule most 0 1;".repeat(5), "rule" + rest);
            fault(3, cells + "op set 0 1;".repeat(5), "op" + rest);
        }
    }

    private static void slots() {
        says("SLOTS", "SLOTS 0 .. 3 have rows of numbers of 1, 2, 4 or 8 bytes (WIDTH 0 .. 3),");
        MergeJudge x = of(LADDER);
        long[] aside = {1L << 8, 1L << 16, 1L << 32, 0};
        for (int width = 0; width <= 3; width++) {
            for (int slot = 0; slot <= 3; slot++) {
                // The greater of 3 and 0 is 3 from each of four bases: a 3 it is still, what is beyond its width is cut.
                write(x, slot, width, 3 + aside[width], 0, 3 - aside[width]);
                due(x.fits(slot), 4);
            }
            write(x, 0, width, 3, 0, 3 + (width == 0 ? 128 : aside[width - 1]));
            due(x.fits(0), -2);
        }
        beyond(4, -2, slot -> of(LADDER).row(slot, 0, 1));
        beyond(4, -2, width -> of(LADDER).row(0, width, 1));
        says("SLOTS", "at most 60,");
        due(x.row(0, 0, 60), 0);
        due(x.fits(0), 4);
        due(x.row(0, 0, 61), -2);
        due(x.row(0, 3, MAX), -2);
        due(x.write(0, 59, 0), 0);
        due(x.write(0, 60, 0), -7);
        says("SLOTS", "or nothing.");
        x = of(LADDER);
        due(x.count(9), 0);
        for (int slot = 0; slot <= 3; slot++) {
            due(x.fits(slot), -6);
            due(x.write(slot, 0, 0), -6);
            due(x.paste(slot, 0, slot, 0, 0), -6);
        }
        says("SLOTS", "-2 (-1,000) is asked ahead of -5, -6.");
        for (int i = 0; i < 20; i++) {
            x.lock(0);
        }
        beyond(1, -2, x::lock);
        beyond(1, -2, x::frees);
        beyond(1, -2, x::drops);
        beyond(1, -2, cell -> of(LADDER).rate(cell, 0));
        due(x.rate(1, 0), -2);
        due(x.rate(0, 4), -2);
        due(x.rate(0, 0), -5);
        due(x.lock(0), -5);
        due(x.back(3), -2);
        due(x.back(2), -6);
        due(x.fits(4), -2);
        due(x.write(4, 0, 0), -2);
        due(x.write(-1, 60, 0), -2);
        due(x.paste(0, 0, 4, 0, 0), -2);
        due(x.paste(4, 0, 0, 0, 0), -2);
        due(none().undo(), -2);
        due(none().fits(0), -2);
        due(none().which(0), -2);
        due(none().laws(0), -2);
        due(none().lock(0), -2);
        due(none().rate(0, 0), -2);
    }

    private static void states() {
        says("II", "A STATE has of each CELL a value 0 .. top;");
        for (int top : TOPS) {
            MergeJudge x = of("base top " + top + " law 0 odds 0;cell max;");
            due(x.states(), top + 1);
            due(x.value(0, 0), 0);
            due(x.value(top, 0), top);
            due(x.value(top + 1, 0), -2);
        }
        says("II", "it is told as a number, CELL 0 once, CELL 1 (top and 1) times, CELL 2 that times that.");
        int[] states = {8, 27, 64};
        for (int top : TOPS) {
            MergeJudge x = of("base top " + top + " law 0 odds 0;cell max;cell max;cell max;");
            int width = top + 1;
            due(x.states(), states[top - 1]);
            // The values 1, 0, top.
            int state = 1 + top * width * width;
            due(x.value(state, 0), 1);
            due(x.value(state, 1), 0);
            due(x.value(state, 2), top);
            // The values 0, 1, 0.
            due(x.value(width, 0), 0);
            due(x.value(width, 1), 1);
            due(x.value(width, 2), 0);
            due(x.value(states[top - 1] - 1, 0), top);
            due(x.value(states[top - 1] - 1, 1), top);
            due(x.value(states[top - 1] - 1, 2), top);
            due(x.value(states[top - 1], 0), -2);
        }
        due(of(FULL).value(38, 0), 2);
        due(of(FULL).value(38, 1), 1);
        due(of(FULL).value(38, 2), 2);
    }

    private static void rules() {
        says("II", "A RULE holds, most: A is N or less.");
        MergeJudge x = of(THREE + "rule most 0 0;rule most 1 2;rule most 0 3;");
        holds(x, 0, 0, 1, 4, 1, 1, 0, 3, 0, 13, 0);
        holds(x, 1, 4, 1, 8, 1, 12, 0, 11, 1, 3, 1);
        holds(x, 2, 3, 1, 15, 1, 0, 1);
        says("II", "least: A is N or more.");
        x = of(THREE + "rule least 0 0;rule least 1 2;rule least 0 3;");
        holds(x, 0, 0, 1, 12, 1);
        holds(x, 1, 4, 0, 8, 1, 12, 1, 7, 0, 3, 0);
        holds(x, 2, 3, 1, 2, 0, 15, 1, 14, 0);
        says("II", "unlike: A and B are not alike.");
        x = of(THREE + "rule unlike 0 1;rule unlike 1 0;");
        holds(x, 0, 0, 0, 1, 1, 4, 1, 5, 0, 15, 0, 14, 1, 11, 1);
        holds(x, 1, 0, 0, 1, 1, 4, 1, 5, 0, 15, 0);
        says("II", "sum: A and B together are N or less.");
        x = of(THREE + "rule sum 0 1 0;rule sum 1 0 4;rule sum 0 1 5;rule sum 0 1 6;");
        holds(x, 0, 0, 1, 1, 0, 4, 0, 15, 0);
        holds(x, 1, 9, 1, 10, 1, 11, 0, 7, 1, 15, 0);
        holds(x, 2, 11, 1, 14, 1, 15, 0);
        holds(x, 3, 15, 1, 0, 1);
        says("II", "order: A is B or less.");
        x = of(THREE + "rule order 0 1;rule order 1 0;");
        holds(x, 0, 9, 1, 10, 1, 11, 0, 0, 1, 12, 1, 3, 0);
        holds(x, 1, 9, 0, 10, 1, 11, 1, 0, 1, 12, 0, 3, 1);
        says("II", "if: A is below N, or B is K or more.");
        x = of(THREE + "rule if 0 2 1 3;rule if 0 0 1 0;rule if 1 0 0 3;rule if 0 2 0 2;rule if 0 1 0 3;");
        holds(x, 0, 1, 1, 10, 0, 14, 1, 15, 1, 11, 0, 2, 0, 0, 1);
        holds(x, 1, 0, 1, 3, 1, 15, 1);
        holds(x, 2, 3, 1, 2, 0, 0, 0, 15, 1);
        holds(x, 3, 0, 1, 1, 1, 2, 1, 3, 1);
        holds(x, 4, 0, 1, 1, 0, 2, 0, 3, 1);
        says("II", "A STATE is VALID, if all RULES that are not DROPPED (acts) hold.");
        x = of("base top 3 law 0 odds 0;cell max;rule most 0 2;rule least 0 1;");
        int[] both = {0, 1, 1, 0};
        int[] first = {1, 1, 1, 0};
        for (int state = 0; state < 4; state++) {
            due(x.valid(state), both[state]);
        }
        x.drops(1);
        for (int state = 0; state < 4; state++) {
            due(x.valid(state), first[state]);
        }
        x.drops(0);
        due(x.valids(), 4);
        x.anew();
        due(x.valids(), 2);
        due(of(LADDER).valids(), 4);
        says("II", "Without CELLS there is one STATE, 0.");
        x = of(EMPTY);
        due(x.states(), 1);
        due(x.valid(0), 1);
        due(x.valid(1), -2);
        due(x.valids(), 1);
        due(x.merge(0, 0, 0), 0);
        due(x.reach(0, 3), 1);
    }

    /** Of a RULE, STATES, each with whether it holds in it. */
    private static void holds(MergeJudge x, int rule, int... pairs) {
        for (int i = 0; i < pairs.length; i += 2) {
            due(x.holds(rule, pairs[i]), pairs[i + 1]);
        }
    }

    private static void ops() {
        MergeJudge x = of(THREE + "op more 0 2;op less 1 2;op set 0 3;op set 1 0;op move 0 1 2;");
        says("An OP", "An OP does, more: A is N more.");
        due(x.does(0, 0), 2);
        due(x.does(0, 13), 15);
        says("An OP", "less: N less.");
        due(x.does(1, 8), 0);
        due(x.does(1, 15), 7);
        says("An OP", "set: A is N.");
        due(x.does(2, 4), 7);
        due(x.does(2, 7), 7);
        due(x.does(3, 14), 2);
        due(x.does(3, 2), 2);
        says("An OP", "move: A is N less, B N more.");
        due(x.does(4, 6), 12);
        due(x.does(4, 7), 13);
        due(x.does(4, 2), 8);
        says("An OP", "It is REFUSED (nothing is done), if a value came out of 0 .. top,");
        due(x.does(0, 1), 3);
        due(x.does(0, 2), -1);
        due(x.does(0, 3), -1);
        due(x.does(1, 7), -1);
        due(x.does(1, 0), -1);
        due(x.does(4, 5), -1);
        due(x.does(4, 10), -1);
        due(x.does(4, 9), -1);
        due(x.reach(10, 1), 3);
        for (int top : TOPS) {
            MergeJudge y = of("base top " + top + " law 0 odds 0;cell max;cell max;op more 0 " + top + ";op less 0 1;");
            due(y.does(0, 0), top);
            due(y.does(0, 1), -1);
            due(y.does(1, 1), 0);
            due(y.does(1, 0), -1);
            // Cell 0 at 0 takes nothing from cell 1, at top it puts nothing there.
            due(y.does(1, top + 1), -1);
            due(y.does(0, top), -1);
        }
        says("An OP", "or the STATE came not to be VALID.");
        x = of("base top 3 law 0 odds 0;cell max;rule most 0 2;op more 0 1;op set 0 3;op less 0 1;");
        due(x.does(0, 1), 2);
        due(x.does(0, 2), -1);
        due(x.does(1, 0), -1);
        due(x.does(1, 3), -1);
        due(x.does(2, 3), 2);
        due(x.reach(2, 3), 3);
        due(x.reach(0, 3), 3);
        x.drops(0);
        due(x.does(0, 2), 3);
        due(x.does(1, 3), 3);
    }

    private static void merges() {
        says("III", "MERGE of a first, a second side from a BASE STATE: each CELL by itself,");
        MergeJudge x = of("base top 3 law 0 odds 0;cell max;cell min;cell add;");
        // Of values 1, 1, 1 the sides 2, 3, 2 and 0, 0, 3 come to 2, 0, 3.
        due(x.merge(21, 46, 48), 50);
        due(x.merge(63, 63, 63), 63);
        due(x.merge(0, 0, 0), 0);
        says("III", "max: the greater of sides.");
        x = of("base top 3 law 0 odds 0;cell max;");
        mergesTo(x, 3, 0, 1, 1, 3, 1, 0, 1, 3, 0, 0, 0, 0, 3, 1, 3, 0, 1, 3, 3, 3, 3, 3, 3);
        says("III", "min: the lesser.");
        x = of("base top 3 law 0 odds 0;cell min;");
        mergesTo(x, 0, 2, 1, 1, 0, 1, 2, 1, 0, 3, 3, 3, 3, 0, 3, 0, 3, 3, 0, 0);
        says("III", "add: of BASE, and by how much each side is more than BASE (less, if it is less), together;");
        x = of("base top 3 law 0 odds 0;cell add;");
        mergesTo(x, 0, 1, 2, 3, 0, 1, 1, 2, 1, 2, 2, 3, 1, 0, 2, 1, 2, 1, 2, 1, 2, 1, 1, 0, 3, 2, 2, 1, 2, 2, 2, 2);
        says("III", "below 0: 0, above top: top.");
        mergesTo(x, 0, 3, 3, 3, 0, 2, 2, 3, 0, 1, 3, 3, 3, 0, 0, 0, 2, 0, 1, 0, 3, 1, 1, 0, 1, 0, 0, 0, 1, 3, 2, 3);
        x = of("base top 1 law 0 odds 0;cell add;");
        mergesTo(x, 0, 1, 1, 1, 1, 0, 0, 0, 0, 1, 0, 1, 1, 1, 0, 0);
        says("III", "late: that of the side that is other than BASE;");
        for (int law = 0; law < 4; law++) {
            x = of("base top 3 law " + law + " odds 0;cell late;");
            mergesTo(x, 1, 1, 0, 0, 1, 0, 1, 0, 1, 3, 1, 3, 1, 1, 3, 3, 0, 0, 2, 2, 3, 0, 3, 0);
        }
        says("III", "if both are, by LAW, 0: the first's, 1: the second's, 2: the greater, 3: that of BASE;");
        mergesTo(of("base top 3 law 0 odds 0;cell late;"), 1, 2, 3, 2, 1, 3, 2, 3, 1, 0, 3, 0, 0, 2, 2, 2);
        mergesTo(of("base top 3 law 1 odds 0;cell late;"), 1, 2, 3, 3, 1, 3, 2, 2, 1, 0, 3, 3, 0, 2, 2, 2);
        mergesTo(of("base top 3 law 2 odds 0;cell late;"), 1, 2, 3, 3, 1, 3, 2, 3, 3, 0, 1, 1, 0, 2, 2, 2);
        mergesTo(of("base top 3 law 3 odds 0;cell late;"), 1, 2, 3, 1, 1, 3, 2, 1, 3, 0, 1, 3, 0, 2, 2, 0);
        says("III", "if none is, that of BASE.");
        for (int law = 0; law < 4; law++) {
            x = of("base top 3 law " + law + " odds 0;cell late;");
            mergesTo(x, 0, 0, 0, 0, 1, 1, 1, 1, 3, 3, 3, 3);
        }
    }

    /** BASE, first, second and what they MERGE to, four numbers each. */
    private static void mergesTo(MergeJudge x, int... fours) {
        for (int i = 0; i < fours.length; i += 4) {
            due(x.merge(fours[i], fours[i + 1], fours[i + 2]), fours[i + 3]);
        }
    }

    private static void reached() {
        says("IV", "From a VALID BASE STATE a side does 0 .. d OPS (d 0 .. 3), none REFUSED, one behind the other: "
                + "what it comes to is REACHED, by as few OPS as can be.");
        MergeJudge x = of(LADDER);
        for (int d = 0; d <= 3; d++) {
            due(x.reach(0, d), d + 1);
            due(x.far(0, d), d);
        }
        due(x.reach(3, 3), 1);
        beyond(4, -2, d -> of(LADDER).reach(0, d));
        // Four steps are too many.
        x = of("base top 3 law 0 odds 0;cell max;cell max;op more 0 1;op more 1 1;");
        due(x.far(0, 6), 3);
        due(x.far(0, 7), -1);
        // No way leads through what is not VALID.
        x = of("base top 3 law 0 odds 0;cell max;rule if 0 1 0 2;op more 0 1;op more 0 2;");
        due(x.reach(0, 3), 3);
        due(x.far(0, 3), 2);
        due(x.reach(1, 3), -1);
        x = of("base top 3 law 0 odds 0;cell max;op more 0 1;op more 0 3;");
        due(x.far(0, 3), 1);
        due(x.far(0, 2), 2);
        says("IV", "A BREAK: a VALID BASE STATE, and two REACHED from it, such that their MERGE "
                + "(the lesser STATE the first side) is not VALID;");
        x = of(LATE);
        due(x.merge(3, 1, 5), 1);
        due(x.merge(3, 5, 1), 2);
        due(x.valid(2), 0);
        due(x.bad(3, 1), 0);
        due(of(LATE.replace("law 0", "law 1")).bad(3, 1), 1);
        due(of(COUNTER).bad(2, 3), 0);
        due(of(COUNTER).bad(3, 3), 0);
        says("IV", "at least one of the two is REACHED in d without LOCKED OPS, be it by more OPS "
                + "(else they would have asked one another).");
        x = of(COUNTER);
        x.lock(1);
        // 2 is REACHED by op 1, or by op 0 twice: in 1 it would have asked, in 2 it need not have.
        due(x.bad(0, 1), 1);
        due(x.bad(0, 2), 2);
        x.lock(0);
        due(x.all(3), 0);
        // The base itself is REACHED without any OP, so its pair with what a LOCKED OP comes to counts.
        x = of("base top 1 law 0 odds 0;cell max;cell max;rule sum 0 1 1;op move 0 1 1;");
        due(x.bad(1, 1), 1);
        x.lock(0);
        due(x.bad(1, 1), 1);
        says("IV", "Each pair of sides (also one twice) counts once.");
        due(of(COUNTER).bad(0, 1), 2);
        due(of(COUNTER).bad(1, 1), 1);
        due(of(EXAMPLE).all(1), 3);
        // Two OPS come to the same side.
        due(of("base top 3 law 0 odds 0;cell add;rule most 0 2;op more 0 1;op more 0 2;op set 0 1;op set 0 2;").bad(0, 1), 2);
    }

    private static void smallest() {
        says("V", "SAFE in d: there is no BREAK.");
        due(of(COUNTER).safe(0), 1);
        due(of(COUNTER).safe(1), 0);
        due(of(LADDER).safe(3), 1);
        due(of(EMPTY).safe(3), 1);
        due(of(NO_VALID).safe(3), 1);
        says("V", "The SMALLEST BREAK: that with fewest OPS of both sides together "
                + "(as few as they are REACHED by, LOCKED ones, too),");
        // From 0 both sides take two steps to 2; from 1 there is a BREAK of one step each.
        smallestOf(of("base top 3 law 0 odds 0;cell add;rule most 0 2;op more 0 1;"), 2, 1, 2, 2, 3, 2);
        // 2 is one step away by op 1, LOCKED, though without it it is two.
        MergeJudge x = of("base top 3 law 2 odds 3;cell add;rule most 0 2;op more 0 1;op more 0 2;");
        x.lock(1);
        smallestOf(x, 2, 0, 1, 2, 3, 2);
        // A side of two steps, and the base itself.
        smallestOf(of("base top 1 law 3 odds 0;cell max;cell max;rule sum 1 0 1;op set 1 0;op more 0 1;"), 2, 2, 1, 2, 3, 2);
        says("V", "of several with the least BASE, then the least first, then the least second side.");
        // From 0, 1 and 2 the side that adds to cell 1 breaks with itself.
        smallestOf(of(EXAMPLE), 1, 0, 3, 3, 6, 2);
        x = of("base top 1 law 0 odds 0;cell max;cell max;cell max;rule sum 0 1 1;rule sum 0 2 1;rule sum 1 2 1;"
                + "op more 2 1;op more 1 1;op more 0 1;");
        smallestOf(x, 1, 0, 1, 2, 3, 2);
        x.drops(0);
        smallestOf(x, 1, 0, 1, 4, 5, 2);
        x.drops(1);
        smallestOf(x, 1, 0, 2, 4, 6, 2);
        x.drops(2);
        smallestOf(x, 1, -1, -1, -1, -1, -1);
    }

    private static void smallestOf(MergeJudge x, int d, int... least) {
        for (int what = 0; what < 5; what++) {
            due(x.least(d, what), least[what]);
        }
    }

    private static void forms() {
        says("VI", "KNOWN: a RULE most or least of a CELL merged by max, min, late.");
        int[] byKind = {1, 1, 0, 1};
        for (int kind = 0; kind < 4; kind++) {
            MergeJudge x = of(THREE + "rule most 1 3;rule least 1 0;rule unlike 1 0;rule sum 1 0 6;rule order 1 0;");
            x.rate(1, kind);
            due(x.known(0), byKind[kind]);
            due(x.known(1), byKind[kind]);
            due(x.known(2), 0);
            due(x.known(3), 0);
            due(x.known(4), 0);
            x = of(THREE + "rule if 1 0 1 0;");
            x.rate(1, kind);
            due(x.known(0), 0);
        }
        says("VI", "OPS COMMUTE, if from each VALID STATE from which neither is REFUSED, "
                + "none is behind the other one either,");
        MergeJudge x = of("base top 2 law 0 odds 0;cell max;cell max;rule sum 0 1 3;op more 0 1;op more 1 1;");
        // From 1, 1 each is done, and the other one behind it is REFUSED.
        due(x.commute(0, 1), 0);
        x.drops(0);
        due(x.commute(0, 1), 1);
        due(x.commute(0, 0), 0);
        due(of("base top 3 law 0 odds 0;cell max;op less 0 3;op set 0 1;").commute(0, 1), 0);
        // There is no VALID STATE from which neither is REFUSED.
        due(of("base top 1 law 0 odds 0;cell max;op more 0 1;op less 0 1;").commute(0, 1), 1);
        due(of(NO_VALID).commute(0, 0), 1);
        says("VI", "and both orders come to the same.");
        due(of("base top 2 law 0 odds 0;cell max;op set 0 1;op set 0 2;").commute(0, 1), 0);
        due(of("base top 2 law 0 odds 0;cell max;cell max;op set 0 1;op set 1 2;").commute(0, 1), 1);
        due(of("base top 2 law 0 odds 0;cell max;op set 0 1;op set 0 1;").commute(0, 1), 1);
        says("VII", "SEEN: a SLOT's row, three numbers each: a first side, a second side, what they MERGE to "
                + "(all STATES, VALID, REACHED or not);");
        x = of("base top 3 law 0 odds 0;cell add;rule most 0 1;");
        // From 1 the sides 3 and 1 come to 3, from 0 to 3 (4 is above top); 0 and 2 come to 1 from 1.
        write(x, 0, 0, 3, 1, 3);
        due(x.fits(0), 2);
        write(x, 0, 0, 3, 1, 3, 0, 2, 1);
        due(x.fits(0), 1);
        due(x.which(0), 1);
        write(x, 0, 0, 3, 1);
        due(x.fits(0), -2);
        x = of(LATE);
        // 1, 0 and 2, 1 come to 1, 0 from values 0 or 2, 1 or 2; the other way round from 2, 1 alone.
        write(x, 0, 0, 1, 5, 1);
        due(x.fits(0), 4);
        write(x, 0, 0, 5, 1, 1);
        due(x.fits(0), 1);
        due(x.which(0), 5);
        says("VII", "what the BASE STATE can have been: any VALID one.");
        x = of("base top 3 law 0 odds 0;cell max;rule least 0 1;rule most 0 2;");
        write(x, 0, 0);
        due(x.fits(0), 2);
        due(x.which(0), 1);
        x.drops(0);
        due(x.fits(0), 3);
        due(x.which(0), 0);
    }

    private static void shares() {
        says("VIII", "A set of RULES alone is there (others DROPPED, besides acts): it is worth how many BREAKS there are in 1.");
        MergeJudge x = of(EXAMPLE);
        int[] worths = {0, 3, 2, 3};
        for (int set = 0; set < 4; set++) {
            due(x.worth(set), worths[set]);
        }
        x.drops(0);
        int[] withoutFirst = {0, 0, 2, 2};
        for (int set = 0; set < 4; set++) {
            due(x.worth(set), withoutFirst[set]);
        }
        x.lock(1);
        due(x.worth(2), 1);
        says("VIII", "RULES come in an order, each has what the set is worth more by it (below 0, too); "
                + "each order is as likely: the mean.");
        x = of(EXAMPLE);
        // Rule 0 first: 3, rule 1 behind it: 0. Rule 1 first: 2, rule 0 behind it: 1.
        due(x.share(0, 0), 2);
        due(x.share(0, 1), 1);
        due(x.share(1, 0), 1);
        due(x.share(1, 1), 1);
        x = of(SUMS);
        // Worth 0, 0, 1, 0 by the sets: rule 0 has 0, or 0 - 1; rule 1 has 1, or 0 - 0.
        due(x.share(0, 0), -1);
        due(x.share(0, 1), 2);
        due(x.share(1, 0), 1);
        due(x.share(1, 1), 2);
        // Each alone and all together are worth 1: in a third of the orders each one comes first.
        x = of("base top 1 law 0 odds 0;cell max;cell max;rule sum 0 1 1;rule sum 0 1 1;rule sum 1 0 1;"
                + "op more 0 1;op more 1 1;");
        for (int rule = 0; rule < 3; rule++) {
            due(x.share(rule, 0), 1);
            due(x.share(rule, 1), 3);
        }
    }

    private static void game() {
        says("IX", "Each of two OPS is LOCKED (besides acts), or not.");
        MergeJudge x = of(COUNTER);
        due(x.gets(0, 1, 0, 0), 2 - 3);
        due(x.gets(0, 1, 0, 1), 2 - 2);
        x.lock(1);
        due(x.gets(0, 1, 0, 0), 2 - 2);
        due(x.gets(0, 1, 0, 1), 2 - 2);
        due(x.locked(), 2);
        says("IX", "It GETS the number of VALID STATES from which it is not REFUSED, less the BREAKS in 1, less 2, "
                + "if it is LOCKED (by this choice);");
        x = of(COUNTER);
        due(x.gets(0, 1, 1, 0), 2 - 2 - 2);
        due(x.gets(0, 1, 1, 1), 2 - 0 - 2);
        x.lock(0);
        due(x.gets(0, 1, 0, 0), 2 - 2);
        due(x.gets(0, 1, 1, 0), 2 - 2 - 2);
        says("IX", "the other one likewise.");
        x = of(COUNTER);
        due(x.gets(1, 0, 0, 0), 1 - 3);
        due(x.gets(1, 0, 1, 0), 1 - 2 - 2);
        due(x.gets(1, 0, 0, 1), 1 - 2);
        due(x.gets(1, 0, 1, 1), 1 - 0 - 2);
        says("IX", "REST: neither GETS more by the other choice alone.");
        // Neither: LOCKED they get less. Both: unlocked they get as much, not more.
        due(x.rests(0, 1), 9);
        due(of(EXAMPLE).rests(0, 1), 4);
        due(of(EXAMPLE).rests(1, 0), 2);
        due(of(THREE + "op more 0 1;op more 1 1;").rests(0, 1), 1);
    }

    private static void chance() {
        says("X", "CHANCE: each RULE is DROPPED with odds in ten, by itself (besides acts).");
        MergeJudge x = of(COUNTER);
        due(x.chance(0), 3);
        due(x.chance(1), 10);
        x = of(EXAMPLE);
        // SAFE only if both are DROPPED.
        due(x.chance(0), 1);
        due(x.chance(1), 4);
        x.drops(0);
        due(x.chance(0), 1);
        due(x.chance(1), 2);
        x.drops(1);
        due(x.chance(0), 1);
        due(x.chance(1), 1);
        says("X", "FRACTIONS are told in lowest terms (0 / 1).");
        due(of(COUNTER.replace("odds 3", "odds 0")).chance(0), 0);
        due(of(COUNTER.replace("odds 3", "odds 0")).chance(1), 1);
        due(of(COUNTER.replace("odds 3", "odds 10")).chance(0), 1);
        due(of(COUNTER.replace("odds 3", "odds 10")).chance(1), 1);
        due(of(COUNTER.replace("odds 3", "odds 8")).chance(0), 4);
        due(of(COUNTER.replace("odds 3", "odds 8")).chance(1), 5);
        due(of(NO_VALID).mean(0), 0);
        due(of(NO_VALID).mean(1), 1);
        due(of(LADDER).mean(0), 4);
        due(of(LADDER).mean(1), 1);
        says("X", "DRAWS: x becomes (1103515245 x + 12345) modulo 2,147,483,648 (at first it is the seed); "
                + "a draw: x / 65536, cut, modulo 10.");
        // x from 1: 16838, 5758, 10113, 17515, 31051 times 65536 and a rest; from 0: 0, 21468, 9988, 22117, 3498.
        int[] fromOne = {0, 0, 16, 16, 20, 20, 28, 28, 28, 31, 31};
        int[] fromNone = {0, 1, 1, 1, 1, 1, 1, 1, 9, 31, 31};
        for (int odds = 0; odds <= 10; odds++) {
            due(drawing(odds).drawn(1, 0), fromOne[odds]);
            due(drawing(odds).drawn(0, 0), fromNone[odds]);
        }
        says("X", "AUDIT drawn: RULE by RULE a draw: below odds it is DROPPED.");
        due(drawing(8).drawn(1, 0), 28);
        due(drawing(9).drawn(1, 0), 31);
        due(of(LADDER).drawn(1, 0), 0);
        x = drawing(5);
        x.drops(0);
        due(x.drawn(1, 0), 20);
    }

    private static MergeJudge drawing(int odds) {
        return of(FULL.replace("odds 10", "odds " + odds));
    }
}
