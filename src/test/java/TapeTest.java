/** Promises 33 to 36: the tape, the grammar of programs and their runs. */
public final class TapeTest {
    public static void main(String[] args) {
        appending();
        fullTape();
        steps();
        numbers();
        blanks();
        errorsInTexts();
        depth();
        longRuns();
        emptyLoops();
        fullRecord();
        Answers.end();
    }

    private static void appending() {
        LastUseDesk desk = new LastUseDesk();
        Answers.due(0, "append of nothing", () -> desk.append(0, 0, 0, 0, 0));
        Answers.due(1, "append of a byte", () -> desk.append(0, 0, 0x00630000, 0, 0));
        Answers.due(3, "append of two", () -> desk.append(0x00003400, 0, 0, 0, 0x0000003b));
        Answers.due(1, "run of c4;", desk::run);
        Answers.due(4, "accumulator", desk::accumulator);
        Answers.due(0, "a run empties the tape", desk::clearTape);
        Answers.due(20, "append of twenty", () -> desk.append(-1, -1, -1, -1, -1));
        Answers.due(40, "append of twenty", () -> desk.append(-1, -1, -1, -1, -1));
        Answers.due(40, "clearTape", desk::clearTape);
        Answers.due(0, "clearTape again", desk::clearTape);
        Answers.due(3, "append behind clearTape", () -> desk.append(0x63393b00, 0, 0, 0, 0));
        Answers.due(5, "append: \" s\"", () -> desk.append(0x20730000, 0, 0, 0, 0));
        Answers.due(9, "append in the order", () -> desk.append(0x36, 0x33, 0x3b, 0x20, 0));
        Answers.due(2, "run of c9; s63; ", desk::run);
        Answers.due(9, "wordAt", () -> desk.wordAt(63));
    }

    private static void fullTape() {
        LastUseDesk desk = new LastUseDesk();
        for (int call = 0; call < 14; call++) {
            desk.append(0x20202020, 0x20202020, 0x20202020, 0x20202020, 0x20202020);
        }
        Answers.due(299, "append", () -> desk.append(
                0x20202020, 0x20202020, 0x20202020, 0x20202020, 0x20202000));
        Answers.tooEarly("append beyond", () -> desk.append(0x20, 0, 0, 0, 0x20));
        Answers.due(299, "append of nothing", () -> desk.append(0, 0, 0, 0, 0));
        Answers.due(300, "append up to the end", () -> desk.append(0, 0, 0, 0, 0x78));
        for (int shift = 0; shift < 32; shift += 8) {
            int one = 1 << shift;
            Answers.tooEarly("append beyond", () -> desk.append(one, 0, 0, 0, 0));
            Answers.tooEarly("append beyond", () -> desk.append(0, one, 0, 0, 0));
            Answers.tooEarly("append beyond", () -> desk.append(0, 0, one, 0, 0));
            Answers.tooEarly("append beyond", () -> desk.append(0, 0, 0, one, 0));
            Answers.tooEarly("append beyond", () -> desk.append(0, 0, 0, 0, one));
        }
        Answers.due(300, "append of nothing", () -> desk.append(0, 0, 0, 0, 0));
        Answers.illegal("run", desk::run);
        Answers.due(300, "errorPosition", desk::errorPosition);
        Answers.due(0, "the tape is empty", desk::clearTape);
    }

    private static void steps() {
        runs("", 0, 0);
        runs("c7;", 1, 7);
        runs("c7;c8;", 2, 8);
        runs("l9;", 1, 9);
        runs("c3;a5;a6;", 3, 14);
        runs("c3;s5;l6;a5;", 4, 9);
        runs("x1{c5;}", 1, 5);
        runs("c1;x3{a2;}", 4, 7);
        runs("c1;x2{a2;x3{a1;}}a3;", 10, 14);
        runs("x2{c1;}x3{a1;}", 5, 4);
        runs("x2{x2{x2{x2{a1;}}}}", 16, 16);
        runs("x9{}", 0, 0);
        runs("x2{x3{}a1;x3{}}", 2, 2);
    }

    private static void numbers() {
        runs("c0;", 1, 0);
        runs("c999;", 1, 999);
        runs("c007;", 1, 7);
        runs("l63;", 1, 63);
        runs("l063;", 1, 63);
        runs("s63;", 1, 0);
        runs("a63;", 1, 63);
        runs("x009{a1;}", 9, 9);
        fails("l64;", 1);
        fails("s64;", 1);
        fails("a100;", 1);
        fails("c1000;", 1);
        fails("c0000;", 1);
        fails("c00000000000000000000000000000001;", 1);
        fails("l0001;", 1);
        fails("x0{}", 1);
        fails("x10{}", 1);
        fails("x000{}", 1);
        fails("l-1;", 1);
    }

    private static void blanks() {
        runs(" c 7 ; ", 1, 7);
        runs("\nc\n7\n;\n", 1, 7);
        runs(" \n x \n 2 \n { \n a 1 ; \n } \n ", 2, 2);
        runs("  ", 0, 0);
        fails("c7 7;", 3);
        fails("c 1000 ;", 2);
        fails("c\t7;", 1);
        fails("c\r7;", 1);
        fails("c7;\u00a0", 3);
        fails("\u0001", 0);
    }

    private static void errorsInTexts() {
        fails("c", 1);
        fails("c  ", 3);
        fails("c7", 2);
        fails("c7 ", 3);
        fails("c;", 1);
        fails("cc", 1);
        fails("c7c", 2);
        fails("c7}", 2);
        fails("c7;7", 3);
        fails("c7;;", 3);
        fails(";", 0);
        fails("7", 0);
        fails("{", 0);
        fails("}", 0);
        fails("x", 1);
        fails("x{", 1);
        fails("x2", 2);
        fails("x2;", 2);
        fails("x2{", 3);
        fails("x2{ ", 4);
        fails("x2{c1;", 6);
        fails("x2{c1;}}", 7);
        fails("x2{c1;} }", 8);
        fails("x2{{", 3);
        fails("x2}", 2);
        fails("C7;", 0);
        fails("b7;", 0);
        fails("c7;d", 3);
        fails("c7;\u00e9", 3);
        fails("c7;\u00ff", 3);
        fails("c1;l1;s64;z", 7);
        fails("c1;z7;s64;", 3);
    }

    private static void depth() {
        runs("x1{x1{x1{x1{c5;}}}}", 1, 5);
        runs("x1{x1{x1{x1{}x1{c5;}}}}x1{c6;}", 2, 6);
        fails("x1{x1{x1{x1{x1{}}}}}", 14);
        fails("x1{x1{x1{x1{x1", 14);
        fails("x1{x1{x1{x1{x1;", 14);
        fails("x1{x1{x1{x1{x1 ", 15);
        fails("x1{x1{x1{x1{x10{", 13);
        fails("x1{x1{x1{x1{}}}}}", 16);
        fails("x1{x1{x1{x1{}}}", 15);
    }

    private static void longRuns() {
        runs("x9{x9{x9{x9{a1;}}}}", 200, 200);
        runs("x9{x9{a1;a2;}}c5;", 163, 5);
        runs("x5{x5{x8{a1;}}}", 200, 200);
        runs("x5{x5{x8{a1;}}}c7;", 200, 200);
        runs("x5{x5{x8{c3;}}}a1;l9;", 200, 3);
        runs("c5;x5{x5{x8{a1;}}}", 200, 204);
        runs("x9{x9{a1;x9{c0;}}}", 200, 0);
        runs("x9{x9{c0;x9{a1;}}}", 200, 9);
        runs("x9{x9{c0;x3{a1;a2;}}}", 200, 4);
        LastUseDesk desk = new LastUseDesk();
        Desks.run(desk, "x9{x9{x9{l0;}}}");
        Answers.due(200, "requests of a run", desk::requests);
        Answers.due(200, "another run has its own steps", () -> Desks.run(desk, "x9{x9{x9{a4;}}}"));
        Answers.due(800, "accumulator", desk::accumulator);
    }

    private static void emptyLoops() {
        StringBuilder text = new StringBuilder("x9{x9{x9{");
        for (int loop = 0; loop < 70; loop++) {
            text.append("x9{}");
        }
        runs(text.append("}}}").toString(), 0, 0);
        runs("x9{x9{x9{c1;}}}x9{x9{x9{x9{}}}}", 200, 1);
    }

    private static void fullRecord() {
        LastUseDesk desk = new LastUseDesk();
        Desks.recordByRuns(desk, 4);
        Desks.type(desk, "c1;z");
        Answers.illegal("run with 800 requests", desk::run);
        Answers.due(3, "errorPosition", desk::errorPosition);
        Answers.due(1, "run without an access", () -> Desks.run(desk, "c8;"));
        desk.request(3);
        Desks.type(desk, "c9");
        Answers.tooEarly("run with 801 requests", desk::run);
        Answers.due(-1, "errorPosition", desk::errorPosition);
        Answers.due(8, "accumulator", desk::accumulator);
        Answers.due(801, "requests", desk::requests);
        Answers.due(2, "the tape stays", desk::clearTape);
        desk.clearCaches();
        Answers.due(1, "run", () -> Desks.run(desk, "c9;"));
        LastUseDesk full = new LastUseDesk();
        Desks.recordByRuns(full, 5);
        Answers.due(1000, "requests", full::requests);
        Answers.tooEarly("run with 1000 requests", full::run);
    }

    /** That a text on a new desk is run with so many steps, and leaves this accumulator. */
    private static void runs(String text, int steps, int accumulator) {
        LastUseDesk desk = new LastUseDesk();
        Desks.type(desk, "z");
        Answers.illegal("run of z", desk::run);
        Answers.due(steps, "run of " + text, () -> Desks.run(desk, text));
        Answers.due(accumulator, "accumulator behind " + text, desk::accumulator);
        Answers.due(-1, "errorPosition behind " + text, desk::errorPosition);
        Answers.due(0, "tape behind " + text, desk::clearTape);
    }

    /** That a text on a new desk has its error there, and that no step is done. */
    private static void fails(String text, int position) {
        LastUseDesk desk = new LastUseDesk();
        Desks.run(desk, "c42;");
        Desks.type(desk, text);
        Answers.illegal("run of " + text, desk::run);
        Answers.due(position, "errorPosition behind " + text, desk::errorPosition);
        Answers.due(42, "accumulator behind " + text, desk::accumulator);
        Answers.due(0, "requests behind " + text, desk::requests);
        Answers.due(0, "resident behind " + text, desk::resident);
        Answers.due(0, "tape behind " + text, desk::clearTape);
        Answers.due(1, "the next run behind " + text, () -> Desks.run(desk, "c1;"));
        Answers.due(-1, "errorPosition", desk::errorPosition);
    }
}
