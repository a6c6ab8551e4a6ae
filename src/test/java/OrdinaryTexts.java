/** Ordinary inputs: the tape, the grammar of programs and their runs (promises 33 to 36). */
final class OrdinaryTexts {
    private OrdinaryTexts() {
    }

    static void all() {
        Sentences.test(33, "Appends bytes to the tape: the four bytes of each parameter, the most"
                + " significant byte first, in the order of the parameters.",
                OrdinaryTexts::append);
        Sentences.test(34, "Empties the tape.", OrdinaryTexts::clearTape);
        Sentences.test(35, "A program is a text on the tape; its grammar is (curly braces without"
                + " quotes: zero or more times):", OrdinaryTexts::texts);
        Sentences.test(35, "program = { item }", OrdinaryTexts::programs);
        Sentences.test(35, "item    = ( \"l\" | \"s\" | \"a\" | \"c\" ) NUMBER \";\" | \"x\" NUMBER"
                + " \"{\" program \"}\"", OrdinaryTexts::items);
        Sentences.test(35, "NUMBER is a maximal run of 1 to 3 digits", OrdinaryTexts::numbers);
        Sentences.test(35, "The bytes 32 and 10 may stand ahead of, between and behind tokens.",
                OrdinaryTexts::blanks);
        Sentences.test(35, "it is a \"{\" while 4 are open", OrdinaryTexts::depth);
        Sentences.test(35, "A run has at most 200 steps; it stops ahead of the next one.",
                OrdinaryTexts::longRuns);
        Sentences.test(35, "x: what stands in its braces is done so many times.",
                OrdinaryTexts::emptyLoops);
        Sentences.test(36, "Returns the error position of the latest run() that threw no"
                + " IllegalStateException.", OrdinaryTexts::errorPosition);
    }

    private static void append() {
        LastUseDesk desk = new LastUseDesk();
        Answers.is(1, "append of a byte", desk.append(0, 0, 0x00630000, 0, 0));
        Answers.is(3, "append of two", desk.append(0x00003400, 0, 0, 0, 0x0000003b));
        Answers.is(1, "run of c4;", desk.run());
        Answers.is(4, "accumulator", desk.accumulator());
        Answers.is(3, "append", desk.append(0x63393b00, 0, 0, 0, 0));
        Answers.is(5, "append", desk.append(0x20730000, 0, 0, 0, 0));
        Answers.is(9, "append", desk.append(0x36, 0x33, 0x3b, 0x20, 0));
        Answers.is(2, "run of c9; s63; ", desk.run());
        Answers.is(9, "wordAt", desk.wordAt(63));
        // c123;a45;c678;s9;l9; is five numbers of four bytes each.
        Answers.is(20, "append", desk.append(
                0x63313233, 0x3b613435, 0x3b633637, 0x383b7339, 0x3b6c393b));
        Answers.is(5, "run of twenty bytes", desk.run());
        Answers.is(678, "accumulator", desk.accumulator());
    }

    private static void clearTape() {
        LastUseDesk desk = new LastUseDesk();
        Answers.is(20, "append of twenty", desk.append(-1, -1, -1, -1, -1));
        Answers.is(40, "append of twenty", desk.append(-1, -1, -1, -1, -1));
        Answers.is(40, "clearTape", desk.clearTape());
        Answers.is(0, "clearTape again", desk.clearTape());
        Answers.is(0, "run of the empty tape", desk.run());
        Answers.is(1, "run of what came behind", Desks.run(desk, "c9;"));
        Answers.is(0, "clearTape behind a run", desk.clearTape());
    }

    private static void texts() {
        runs("c7;", 1, 7);
        runs("l9;", 1, 9);
        runs("c3;s5;l6;a5;", 4, 9);
        runs("c1;x3{a2;}", 4, 7);
        fails("C7;", 0);
        fails("b7;", 0);
        fails("c7;d", 3);
        fails("c7;\u00e9", 3);
        fails("c7;\u00ff", 3);
    }

    private static void programs() {
        runs("", 0, 0);
        runs("c7;c8;", 2, 8);
        runs("c3;a5;a6;", 3, 14);
        runs("x1{}x2{}c5;x3{}", 1, 5);
        fails("c7;;", 3);
        fails("c7;7", 3);
        fails(";", 0);
        fails("7", 0);
        fails("{", 0);
        fails("}", 0);
    }

    private static void items() {
        runs("x1{c5;}", 1, 5);
        runs("c1;x2{a2;x3{a1;}}a3;", 10, 14);
        runs("x2{c1;}x3{a1;}", 5, 4);
        fails("c", 1);
        fails("c7", 2);
        fails("c;", 1);
        fails("cc", 1);
        fails("c7c", 2);
        fails("c7}", 2);
        fails("x", 1);
        fails("x{", 1);
        fails("x2", 2);
        fails("x2;", 2);
        fails("x2}", 2);
        fails("x2{", 3);
        fails("x2{{", 3);
        fails("x2{c1;", 6);
        fails("x2{c1;}}", 7);
    }

    private static void numbers() {
        runs("c0;", 1, 0);
        runs("c999;", 1, 999);
        runs("c007;", 1, 7);
        runs("l063;", 1, 63);
        runs("a63;", 1, 63);
        runs("x009{a1;}", 9, 9);
        fails("s64;", 1);
        fails("a100;", 1);
        fails("c1000;", 1);
        fails("c0000;", 1);
        fails("l0001;", 1);
        fails("l-1;", 1);
        fails("x0{}", 1);
        fails("x000{}", 1);
        fails("x10{}", 1);
    }

    private static void blanks() {
        runs(" c 7 ; ", 1, 7);
        runs("\nc\n7\n;\n", 1, 7);
        runs(" \n x \n 2 \n { \n a 1 ; \n } \n ", 2, 2);
        runs("  ", 0, 0);
        fails("c7 7;", 3);
        fails("c 1000 ;", 2);
        fails("c\t7;", 1);
        fails("c\r7;", 1);
        fails("c7;\u00a0", 3);
        fails("x2{c1;} }", 8);
    }

    private static void depth() {
        runs("x1{x1{x1{x1{c5;}}}}", 1, 5);
        runs("x1{x1{x1{x1{}x1{c5;}}}}x1{c6;}", 2, 6);
        fails("x1{x1{x1{x1{x1{}}}}}", 14);
        fails("x1{x1{x1{x1{x1", 14);
        fails("x1{x1{x1{x1{x1;", 14);
        fails("x1{x1{x1{x1{x1 ", 15);
        fails("x1{x1{x1{x1{x10{", 13);
        fails("x1{x1{x1{x1{}}}}}", 16);
        fails("x1{x1{x1{x1{}}}", 15);
    }

    private static void longRuns() {
        runs("x9{x9{x9{x9{a1;}}}}", 200, 200);
        runs("x9{x9{a1;a2;}}c5;", 163, 5);
        runs("x5{x5{x8{a1;}}}c7;", 200, 200);
        runs("x5{x5{x8{c3;}}}a1;l9;", 200, 3);
        runs("c5;x5{x5{x8{a1;}}}", 200, 204);
        runs("x9{x9{a1;x9{c0;}}}", 200, 0);
        runs("x9{x9{c0;x9{a1;}}}", 200, 9);
        runs("x9{x9{c0;x3{a1;a2;}}}", 200, 4);
    }

    private static void emptyLoops() {
        runs("x9{}", 0, 0);
        runs("x2{x3{}a1;x3{}}", 2, 2);
        runs("x9{x9{x9{c1;}}}x9{x9{x9{x9{}}}}", 200, 1);
    }

    private static void errorPosition() {
        LastUseDesk desk = Desks.recorded(4, 0);
        Desks.type(desk, "c1;z");
        Answers.illegal("run with 800 requests", desk::run);
        Answers.is(3, "errorPosition", desk.errorPosition());
        Answers.is(1, "run without an access", Desks.run(desk, "c8;"));
        Answers.is(-1, "errorPosition", desk.errorPosition());
        desk.request(3);
        Desks.type(desk, "c9");
        Answers.tooEarly("run with 801 requests", desk::run);
        Answers.is(-1, "errorPosition", desk.errorPosition());
        Answers.is(2, "clearTape: the tape stays;", desk.clearTape());
    }

    /** That a text on a desk is run with so many steps, and leaves this accumulator. */
    private static void runs(String text, int steps, int accumulator) {
        LastUseDesk desk = new LastUseDesk();
        Desks.type(desk, "z");
        Answers.illegal("run of z", desk::run);
        Answers.due(steps, "run of " + text, () -> Desks.run(desk, text));
        Answers.is(accumulator, "accumulator behind " + text, desk.accumulator());
        Answers.is(-1, "errorPosition behind " + text, desk.errorPosition());
        Answers.is(0, "clearTape behind " + text, desk.clearTape());
    }

    /** That a text on a desk has its error there, and that no step is done. */
    private static void fails(String text, int position) {
        LastUseDesk desk = new LastUseDesk();
        Desks.run(desk, "c42;");
        Desks.type(desk, text);
        Answers.illegal("run of " + text, desk::run);
        Answers.is(position, "errorPosition behind " + text, desk.errorPosition());
        Answers.is(42, "accumulator behind " + text, desk.accumulator());
        Answers.is(0, "requests behind " + text, desk.requests());
        Answers.is(0, "resident behind " + text, desk.resident());
        Answers.is(0, "clearTape behind " + text, desk.clearTape());
        Answers.due(1, "the next run behind " + text, () -> Desks.run(desk, "c1;"));
        Answers.is(-1, "errorPosition", desk.errorPosition());
    }
}
