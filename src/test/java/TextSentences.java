import java.util.Arrays;

/** Empty and full: the tape; the grammar; the steps of a run (promises 33 to 36). */
final class TextSentences {
    private static final String RANGES = "NUMBER is a maximal run of 1 to 3 digits";
    private static final String STOPS = "The error position is the index of its first byte, or the"
            + " length of the text if the text ends too early.";
    private static final String MOST_STEPS = "A run has at most 200 steps; it stops ahead of the next"
            + " one.";
    /** 199 steps, each of which adds 1; it takes 28 bytes. */
    private static final String STEPS_199 = "x9{x9{a1;a1;}}x9{x4{a1;}}a1;";

    private TextSentences() {
    }

    static void all() {
        tape();
        numbers();
        tokens();
        whereReadingStops();
        errorPositions();
        steps();
        manySteps();
    }

    private static void tape() {
        Sentences.test(33, "Bytes that are 0 are left out.", () -> {
            LastUseDesk desk = new LastUseDesk();
            Answers.is(0, "append of nothing", desk.append(0, 0, 0, 0, 0));
            for (int index = 0; index < 20; index++) {
                int[] words = new int[5];
                words[index / 4] = 'c' << (8 * (index % 4));
                Answers.is(index + 1, "append of one byte",
                        desk.append(words[0], words[1], words[2], words[3], words[4]));
            }
            desk.clearTape();
            desk.append('c', '1' << 24, '2' << 16, ';' << 8, 0);
            Answers.is(1, "run of c12;", desk.run());
            Answers.is(12, "accumulator", desk.accumulator());
        });
        Sentences.test(33, "Returns the number of bytes on the tape afterwards.", () -> {
            LastUseDesk desk = new LastUseDesk();
            for (int bytes = 20; bytes <= 300; bytes += 20) {
                Answers.is(bytes, "append", desk.append(-1, -1, -1, -1, -1));
            }
            Answers.is(300, "append of nothing to a full tape", desk.append(0, 0, 0, 0, 0));
            Answers.is(299, "append", Desks.blanks(298).append(0, 0, 1, 0, 0));
            Answers.is(300, "append of the last byte", Desks.blanks(299).append(0, 0, 1, 0, 0));
            Answers.is(300, "append up to the end", Desks.blanks(280).append(-1, -1, -1, -1, -1));
        });
        Sentences.test(34, "Returns the number of bytes that were on it.", () -> {
            Answers.is(0, "clearTape of an empty tape", new LastUseDesk().clearTape());
            for (int bytes : new int[] {1, 299, 300}) {
                LastUseDesk desk = Desks.blanks(bytes);
                Answers.is(bytes, "clearTape", desk.clearTape());
                Answers.is(0, "clearTape again", desk.clearTape());
                Answers.is(20, "append behind it", desk.append(-1, -1, -1, -1, -1));
            }
        });
        Sentences.test(35, "Runs the program on the tape, and empties the tape.", () -> {
            Answers.is(0, "run of an empty tape", new LastUseDesk().run());
            LastUseDesk full = new LastUseDesk();
            Answers.is(100, "run of a full tape", Desks.run(full, "c1;".repeat(99) + "c9;"));
            Answers.is(9, "accumulator", full.accumulator());
            Answers.is(0, "clearTape", full.clearTape());
            Answers.is(0, "run of a tape full of blanks", Desks.blanks(300).run());
            for (String text : new String[] {"x1{", "c1;x2{c2;", "x1{x1{x1{x1{x1{", "x9{x9{c", "c1"}) {
                LastUseDesk desk = new LastUseDesk();
                Desks.type(desk, text);
                Answers.illegal("run of " + text, desk::run);
                Answers.is(1, "the next run behind " + text, Desks.run(desk, "c7;"));
                Answers.is(-1, "errorPosition behind it", desk.errorPosition());
                Answers.is(7, "accumulator behind it", desk.accumulator());
            }
        });
    }

    private static void numbers() {
        for (String letter : new String[] {"l", "s", "a"}) {
            Sentences.test(35, "0 to 63 behind l, s, a", () -> range(letter, 0, 63, ";"));
        }
        Sentences.test(35, "0 to 999 behind c", () -> range("c", 0, 999, ";"));
        Sentences.test(35, "1 to 9 behind x", () -> range("x", 1, 9, "{}"));
        Sentences.test(35, RANGES, () -> {
            for (String letter : new String[] {"l", "s", "a", "c"}) {
                fits(letter + "9;");
                fits(letter + "09;");
                fits(letter + "009;");
                fits(letter + "000;");
                stops(letter + ";", 1);
                stops(letter + "0009;", 1);
                stops(letter + "0000;", 1);
                stops(letter + "1".repeat(299), 1);
                // Two runs of digits are two NUMBERs, even if one fits.
                stops(letter + "1 2;", 3);
                stops(letter + "0 0000;", 3);
            }
            fits("x01{}");
            fits("x009{}");
            stops("x{}", 1);
            stops("x0001{}", 1);
            stops("x1 1{}", 3);
        });
        Sentences.test(35, "a longer run of digits, is no token", () -> {
            stops("1234", 0);
            stops("c 1234 ;", 2);
            stops("c1;0001;", 3);
            stops("c9999999999999999999999;", 1);
            stops("c4294967297;", 1);
        });
    }

    /** Each number from 0 to 1001 behind a letter, written as short as it can be. */
    private static void range(String letter, int least, int most, String behind) {
        for (int number = 0; number <= 1001; number++) {
            String text = letter + number + behind;
            if (number >= least && number <= most) {
                fits(text);
            } else {
                stops(text, 1);
            }
        }
    }

    private static void tokens() {
        Sentences.test(35, "Tokens are the letters l, s, a, c, x, NUMBERs, and the signs ; { }.", () -> {
            for (char sign = 1; sign < 256; sign++) {
                boolean digit = sign >= '0' && sign <= '9';
                boolean blank = sign == ' ' || sign == '\n';
                boolean step = "lsac".indexOf(sign) >= 0;
                ends(sign + "1;", step ? -1 : sign == 'x' ? 2 : blank ? 1 : 0);
                ends("c1" + sign, sign == ';' ? -1 : digit || blank ? 3 : 2);
                ends("x1" + sign, sign == '{' || blank ? 3 : digit ? 1 : 2);
                ends("c" + sign + ";", digit ? -1 : blank ? 2 : 1);
                ends("x1{" + sign, sign == '}' ? -1 : step || sign == 'x' || blank ? 4 : 3);
            }
        });
        Sentences.test(35, "The bytes 32 and 10 may stand ahead of, between and behind tokens.", () -> {
            String[] tokens = {"x", "2", "{", "a", "1", ";", "c", "012", ";", "}"};
            for (int gap = 0; gap <= tokens.length; gap++) {
                String ahead = String.join("", Arrays.copyOfRange(tokens, 0, gap));
                String behind = String.join("", Arrays.copyOfRange(tokens, gap, tokens.length));
                for (char sign = 1; sign < 256; sign++) {
                    String text = ahead + sign + " \n" + sign + behind;
                    if (sign == 32 || sign == 10) {
                        fits(text);
                    } else if ("lsacx;{}0123456789".indexOf(sign) < 0) {
                        stops(text, ahead.length());
                    }
                }
            }
            stops("c0 1;", 3);
            stops("c0\n1;", 3);
            fits(" ".repeat(300));
            fits("\n".repeat(300));
            fits(" ");
        });
        Sentences.test(35, "Everything else, so also a longer run of digits, is no token.", () -> {
            for (char sign = 1; sign < 256; sign++) {
                if ("lsacx;{}0123456789 \n".indexOf(sign) < 0) {
                    stops("" + sign, 0);
                    stops("c1;" + sign + "c1;", 3);
                    stops("c1;" + sign, 3);
                }
            }
        });
    }

    private static void whereReadingStops() {
        Sentences.test(35, "Reading stops at the first token that does not fit: it is no token", () -> {
            stops("z", 0);
            stops("c1;z;c1000;", 3);
            stops("cz", 1);
            stops("c1z;", 2);
            stops("x2z", 2);
            stops("x2{z", 3);
            stops("c1000;z", 1);
        });
        Sentences.test(35, "the grammar does not allow it there", () -> {
            for (String sign : new String[] {";", "{", "}", "7"}) {
                stops(sign, 0);
                stops("c1;" + sign, 3);
                stops("x1{}" + sign, 4);
            }
            for (String sign : new String[] {"l", "s", "a", "c", "x", ";", "{", "}"}) {
                stops("c" + sign, 1);
                stops("x" + sign, 1);
            }
            for (String sign : new String[] {"l", "s", "a", "c", "x", "}"}) {
                stops("l1" + sign, 2);
                stops("x1" + sign, 2);
                stops("x1{" + "c1" + sign, 5);
            }
            stops("c1{", 2);
            stops("x1;", 2);
            stops("x1{;", 3);
            stops("x1{{", 3);
            stops("x1{1", 3);
            stops("x1{c1;}}", 7);
            fits("");
            fits("x1{}");
        });
        Sentences.test(35, "it is a NUMBER out of range", () -> {
            stops("l64;", 1);
            stops("c1;s 999;z", 5);
            stops("x0{}", 1);
            stops("x10{}", 1);
            stops("x1{x0{}}", 4);
            stops("a64", 1);
        });
        Sentences.test(35, "it is a \"{\" while 4 are open", () -> {
            fits("x1{x1{x1{x1{}}}}");
            fits("x1{x1{x1{x1{}x1{}}x1{x1{}}}}x1{x1{x1{x1{}}}}");
            stops("x1{x1{x1{x1{x1{}}}}}", 14);
            stops("x1{x1{x1{x1{x1 {", 15);
            stops("x1{x1{x1{x1{}x1{x1{", 18);
            stops("x1{x1{x1{x1{}}}}x1{x1{x1{x1{x1{}}}}}", 30);
            // What stands ahead of the fifth brace is read first.
            stops("x1{x1{x1{x1{x0{", 13);
            stops("x1{x1{x1{x1{x{", 13);
            stops("x1{x1{x1{x1{{", 12);
            stops("x1{x1{x1{x1{x1;", 14);
        });
    }

    private static void errorPositions() {
        Sentences.test(36, STOPS, () -> {
            stops("z", 0);
            stops("  z", 2);
            stops(" ".repeat(299) + "z", 299);
            stops("c", 1);
            stops("c  ", 3);
            stops("c1", 2);
            stops("c1\n", 3);
            stops("x", 1);
            stops("x1", 2);
            stops("x1{", 3);
            stops("x1{ ", 4);
            stops("x1{c1;", 6);
            stops("x1{x1{}", 7);
            stops("c1;".repeat(99) + "c1 ", 300);
            stops("x1{" + "c1;".repeat(99), 300);
            stops("c1;".repeat(99) + "c64", 300);
            stops("c1;".repeat(99) + "x10", 298);
        });
        Sentences.test(36, "Returns the position; NONE if the text had no error, or there was no such"
                + " run().", () -> {
            LastUseDesk desk = new LastUseDesk();
            Answers.is(-1, "errorPosition ahead of a run", desk.errorPosition());
            desk.append('z', 0, 0, 0, 0);
            Answers.is(-1, "errorPosition ahead of a run", desk.errorPosition());
            Answers.illegal("run of z", desk::run);
            Answers.is(0, "errorPosition of z", desk.errorPosition());
            Answers.is(0, "run of an empty tape", desk.run());
            Answers.is(-1, "errorPosition of an empty tape", desk.errorPosition());
        });
        Sentences.test(36, "Returns the error position of the latest run() that threw no"
                + " IllegalStateException.", () -> {
            LastUseDesk desk = Desks.recorded(4, 0);
            Desks.type(desk, "c1;z");
            Answers.illegal("run of c1;z", desk::run);
            desk.request(0);
            Desks.type(desk, "c1");
            Answers.tooEarly("run with 801 requests", desk::run);
            Answers.is(3, "errorPosition", desk.errorPosition());
            desk.clearCaches();
            Answers.illegal("run of c1", desk::run);
            Answers.is(2, "errorPosition", desk.errorPosition());
        });
    }

    private static void steps() {
        Sentences.test(35, "A program is done item by item; l, s, a and c are steps.", () -> {
            runs("", 0, 0);
            runs("c5;", 1, 5);
            runs("l5;", 1, 5);
            runs("s5;", 1, 0);
            runs("a5;", 1, 5);
            runs("x9{}", 0, 0);
            runs("c5;s0;a0;l9;a9;", 5, 18);
        });
        Sentences.test(35, "x: what stands in its braces is done so many times.", () -> {
            for (int times = 1; times <= 9; times++) {
                runs("x" + times + "{a1;}", times, times);
                runs("x" + times + "{x" + times + "{a1;}}", times * times, times * times);
                runs("x" + times + "{a1;}a2;", times + 1, times + 2);
            }
            runs("x2{x2{x2{x2{a1;}}}}", 16, 16);
            runs("x9{x9{x9{x9{}}}}c7;", 1, 7);
            runs("x2{x3{a1;}a2;x4{a3;}}", 16, 34);
            runs("x9{x9{x9{" + "x9{}".repeat(70) + "}}}", 0, 0);
        });
    }

    private static void manySteps() {
        Sentences.test(35, MOST_STEPS, () -> {
            runs(STEPS_199, 199, 199);
            runs(STEPS_199 + "a1;", 200, 200);
            runs(STEPS_199 + "a1;a1;", 200, 200);
            runs(STEPS_199 + "a1;c5;", 200, 200);
            runs(STEPS_199 + "x2{a1;}", 200, 200);
            runs(STEPS_199 + "x2{a1;a1;}a1;", 200, 200);
            runs(STEPS_199 + "a1;x9{}", 200, 200);
            runs(STEPS_199 + "x9{}x1{x1{c7;}}", 200, 7);
            runs("x9{x9{x9{x9{a1;}}}}", 200, 200);
            runs("x9{x9{x9{c0;a1;a1;}}}", 200, 1);
        });
        Sentences.test(35, "it stops ahead of the next one", () -> {
            for (String next : new String[] {"l63;", "s63;", "a63;", "c7;"}) {
                LastUseDesk desk = new LastUseDesk();
                desk.setFrames(8);
                Answers.is(200, "run", Desks.run(desk, STEPS_199 + "a1;" + next));
                Answers.is(200, "accumulator behind " + next, desk.accumulator());
                Answers.is(200, "requests behind " + next, desk.requests());
                Answers.is(1, "faults behind " + next, desk.faults());
                Answers.is(false, "isDirty behind " + next, desk.isDirty(15));
                Answers.is(63, "wordAt behind " + next, desk.wordAt(63));
            }
        });
        Sentences.test(35, "Returns the number of steps that were done.", () -> {
            LastUseDesk desk = new LastUseDesk();
            Answers.is(0, "run of an empty tape", desk.run());
            Answers.is(1, "run", Desks.run(desk, "c1;"));
            Answers.is(200, "run", Desks.run(desk, STEPS_199 + "a1;"));
            Answers.is(200, "each run has its own steps", Desks.run(desk, STEPS_199 + "a1;a1;"));
            Answers.is(199, "run", Desks.run(desk, STEPS_199));
            Answers.is(0, "run of an empty tape", desk.run());
        });
    }

    private static void runs(String text, int steps, int accumulator) {
        LastUseDesk desk = new LastUseDesk();
        Answers.is(steps, "run of " + text, Desks.run(desk, text));
        Answers.is(accumulator, "accumulator behind " + text, desk.accumulator());
    }

    private static void fits(String text) {
        ends(text, -1);
    }

    private static void stops(String text, int position) {
        ends(text, position);
    }

    /** That a text ends with this error position, and without one if it is -1. */
    private static void ends(String text, int position) {
        LastUseDesk desk = new LastUseDesk();
        Desks.type(desk, text);
        String told = Answers.told(desk::run).startsWith("answers") ? "fits" : "has an error";
        Answers.check(position < 0 ? "fits" : "has an error", "the text " + text, told);
        Answers.is(position, "errorPosition of " + text, desk.errorPosition());
        Answers.is(0, "clearTape behind " + text, desk.clearTape());
    }
}
