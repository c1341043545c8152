import java.util.function.Consumer;

/** 'What it is' and 'Terms': for each boundary that a sentence names, a test of its own. */
public final class TermsBoundaryTest extends Check {
    private static final int MOST_CALLS = 512;
    /** Rows without letters: no parts, an empty text (x has MOST 0), more of them. */
    private static final String[] EMPTY = {"", "x", "xx", "xxxxxx"};

    private static void so(int kind, Object... about) {
        dueSo(3, kind, true, about);
    }

    private static void notSo(int kind, Object... about) {
        dueSo(3, kind, false, about);
    }

    private static void calls() {
        test("512 calls that ask: the last answers as the first", () -> {
            TextSolver x = new TextSolver();
            for (int call = 1; call <= MOST_CALLS; call++) {
                due("call " + call, call % 4 == 0 ? x.solve() : call % 4 == 1 ? x.models() : call % 4 == 2 ? x.spans()
                    : x.told(5), 1);
            }
        });
        test("512 calls that ROOM refuses: nothing more comes", () -> {
            TextSolver text = new TextSolver();
            TextSolver term = new TextSolver();
            TextSolver machine = new TextSolver();
            for (int call = 0; call < MOST_CALLS; call++) {
                due("text(0), call " + call, text.text(0), call < 4 ? call : ROOM);
                due("term(), call " + call, term.term(), call < 12 ? call : ROOM);
                due("machine(6), call " + call, machine.machine(6), call < 3 ? call : ROOM);
            }
        });
        test("512 calls that clear and fill it again", () -> {
            TextSolver x = new TextSolver();
            for (int round = 0; round < MOST_CALLS / 8; round++) {
                int letters = 2 + round % 2;
                due("clear", x.clear(letters), round == 0 ? 0 : 1);
                due("text(5)", x.text(5), 0);
                due("term()", x.term(), 0);
                due("part(0, 8)", x.part(0, 8), 1);
                due("formula", x.formula(LONGER, 0, NONE, 5, 0), 0);
                due("models()", x.models(), letters == 2 ? 32 : 243);
                due("model, the last", x.model(letters == 2 ? 31 : 242), 1);
                due("letter(0, 4)", x.letter(0, 4), letters - 1);
            }
        });
        test("512 calls on the greatest SPACE, ten FORMULAS that change each time", TermsBoundaryTest::dearCalls);
        test("512 calls: the CORE of ten FORMULAS on the greatest SPACE", TermsBoundaryTest::dearCores);
    }

    /** 3 letters; x has 4 letters at most, y, z and w one each: 7744 ways. */
    private static TextSolver greatestSpace() {
        TextSolver x = withLetters(3);
        for (int most : new int[] {4, 1, 1, 1}) {
            x.text(most);
        }
        return x;
    }

    private static void dearCalls() {
        TextSolver x = greatestSpace();
        termOf(x, "xyzwxx");
        x.machine(2);
        x.good(0, 0, true);
        x.good(0, 1, true);
        for (int f = 0; f < 10; f++) {
            x.formula(TAKEN, 0, 0, 0, 0);
        }
        // State 1 stays for good; from state 0 just a 2 leads back to state 0.
        for (int letter = 0; letter < 3; letter++) {
            x.step(0, 1, letter, 1);
        }
        x.step(0, 0, 0, 1);
        x.step(0, 0, 1, 1);
        int onlyTwos = 5 * 2 * 2 * 2;
        boolean was = true;
        for (int calls = 30; calls < MOST_CALLS; calls += 2) {
            due("good, call " + (calls + 1), x.good(0, 0, !was), was ? 1 : 0);
            was = !was;
            due("models(), call " + (calls + 2), x.models(), was ? 7744 : 7744 - onlyTwos);
        }
    }

    private static void dearCores() {
        TextSolver x = greatestSpace();
        termOf(x, "xyzwxx");
        for (int rest = 0; rest < 10; rest++) {
            x.formula(SUM, 0, 10, rest, 0);
            x.deny(rest, true);
        }
        for (int call = 33; call <= MOST_CALLS; call++) {
            due("core(), call " + call, x.core(), 10);
        }
    }

    private static void lettersAndTexts() {
        test("LETTERS are 0 to A - 1", () -> {
            TextSolver x = new TextSolver();
            x.text(1);
            dueModels("A is 2 at first", x, "", "0", "1");
            x.clear(3);
            x.text(1);
            dueModels("A is 3", x, "", "0", "1", "2");
            x.clear(2);
            x.text(1);
            dueModels("A is 2 again", x, "", "0", "1");
        });
        test("TEXTS: each of a length from 0 to its MOST", () -> {
            int[][] rows = {{1, 3, 7, 15, 31, 63}, {1, 4, 13, 40, 121, 364}};
            for (int letters = 2; letters <= 3; letters++) {
                for (int most = 0; most <= 5; most++) {
                    allRows(letters, most, rows[letters - 2][most]);
                }
            }
        });
        test("THE SPACE is 1 without TEXTS", () -> {
            due("told(5)", new TextSolver().told(5), 1);
            due("told(5) of three letters", withLetters(3).told(5), 1);
        });
        test("THE SPACE, the greatest below 8000 of two letters: 6975, not 8505", () -> {
            spaceIsUsed(2, 6975, "1111,111,111", 4, 3, 3);
            spaceWouldBeTooBig(2, 5, 3, 1, 1);
            spaceWouldBeTooBig(2, 1, 1, 3, 5);
        });
        test("THE SPACE, the greatest below 8000 of three letters: 7744, not 8320", () -> {
            spaceIsUsed(3, 7744, "2222,2,2,2", 4, 1, 1, 1);
            spaceIsUsed(3, 7744, "2,2,2,2222", 1, 1, 1, 4);
            spaceWouldBeTooBig(3, 3, 2, 1, 1);
            spaceWouldBeTooBig(3, 1, 1, 2, 3);
        });
    }

    private static void allRows(int letters, int most, int rows) {
        TextSolver x = withLetters(letters);
        x.text(most);
        due("told(5)", x.told(5), rows);
        due("models()", x.models(), rows);
        x.solve();
        dueRow("the first", x, 0, "");
        x.model(rows - 1);
        dueRow("the last", x, 0, String.valueOf(letters - 1).repeat(most));
        due("none behind it", x.model(rows), 0);
    }

    private static void spaceIsUsed(int letters, int space, String last, int... mosts) {
        TextSolver x = withLetters(letters);
        for (int i = 0; i < mosts.length; i++) {
            due("text(" + mosts[i] + ")", x.text(mosts[i]), i);
        }
        due("told(5)", x.told(5), space);
        due("models()", x.models(), space);
        due("the last model", x.model(space - 1), 1);
        String[] rows = last.split(",", -1);
        for (int t = 0; t < rows.length; t++) {
            dueRow("the last model", x, t, rows[t]);
        }
        due("none behind it", x.model(space), 0);
    }

    private static void spaceWouldBeTooBig(int letters, int... mosts) {
        TextSolver x = withLetters(letters);
        for (int i = 0; i < mosts.length; i++) {
            due("text(" + mosts[i] + ")", x.text(mosts[i]), i < mosts.length - 1 ? i : ROOM);
        }
        due("told(1)", x.told(1), mosts.length - 1);
    }

    private static void terms() {
        test("TERMS: the PARTS one behind the other, six of them", () -> {
            TextSolver x = withLetters(3);
            x.text(2);
            x.text(2);
            x.formula(SAME, termOf(x, "x"), termOf(x, "01"), 0, 0);
            x.formula(SAME, termOf(x, "y"), termOf(x, "2"), 0, 0);
            x.formula(SAME, termOf(x, "x1y0yx"), termOf(x, "01120y"), 0, 0);
            x.leave(2, true);
            x.formula(REPLACED, termOf(x, "x1y0yx"), termOf(x, "0112"), termOf(x, "2"), termOf(x, "20201"));
            due("01 1 2 0 2 01 by its letters: models()", x.models(), 1);
            x.solve();
            due("01 1 2 0 2 01 is not 01120 2: holds(2)", x.holds(2), 0);
        });
        test("TERMS: 30 letters at most, six times a TEXT of five", () -> {
            TextSolver x = new TextSolver();
            x.text(5);
            x.text(5);
            termOf(x, "xxxxxx");
            x.formula(LONGER, 0, NONE, 30, 0);
            due("30 letters: models()", x.models(), 32 * 63);
            x.formula(SAME, 0, termOf(x, "xxxxxy"), 0, 0);
            due("the last five letters are looked at: models()", x.models(), 32);
            x.formula(BEFORE, 0, 1, 0, 0);
            x.leave(1, true);
            x.formula(LONGER, 1, NONE, 30, 0);
            due("BEFORE in the last five letters: models()", x.models(), 32 * 31 / 2);
            x.leave(2, true);
            x.formula(HAS, 1, termOf(x, "yy"), 0, 0);
            x.formula(HAS, 0, 1, 0, 0);
            due("HAS of 30 letters in 30: models()", x.models(), 32);
        });
        test("TERMS: 30 letters replaced", () -> {
            TextSolver x = new TextSolver();
            x.text(5);
            termOf(x, "x");
            termOf(x, "11111");
            termOf(x, "xxxxxx");
            termOf(x, "");
            x.formula(SAME, 0, 1, 0, 0);
            x.formula(REPLACED, 3, 2, 2, 3);
            due("all by nothing: models()", x.models(), 1);
            x.formula(REPLACED, 2, 3, 3, 2);
            due("nothing by all: models()", x.models(), 1);
            x.formula(REPLACED, 2, 2, 3, 2);
            due("60 letters are not 30: models()", x.models(), 0);
            x.deny(3, true);
            due("60 letters are not 30, denied: models()", x.models(), 1);
        });
    }

    private static void machines() {
        test("MACHINES: none of the letters: STATE 0 itself", () -> {
            for (String empty : EMPTY) {
                for (int code = 0; code < 4; code++) {
                    TextSolver x = new TextSolver();
                    x.text(0);
                    termOf(x, empty);
                    x.machine(2);
                    x.good(0, 0, (code & 1) != 0);
                    x.good(0, 1, (code & 2) != 0);
                    x.formula(TAKEN, 0, 0, 0, 0);
                    due("models()", x.models(), code & 1);
                }
            }
        });
        test("MACHINES: one STATE takes all rows or none", () -> {
            TextSolver x = withLetters(3);
            x.text(5);
            termOf(x, "x");
            x.machine(1);
            x.formula(TAKEN, 0, 0, 0, 0);
            due("models()", x.models(), 0);
            x.good(0, 0, true);
            due("models()", x.models(), 364);
        });
        test("MACHINES: six STATES, a STEP from each with each letter", () -> {
            for (int letters = 2; letters <= 3; letters++) {
                for (int good = 0; good < 6; good++) {
                    TextSolver x = withLetters(letters);
                    x.text(5);
                    termOf(x, "x");
                    ringOf(x, 6, good);
                    x.formula(TAKEN, 0, 0, 0, 0);
                    due("rows of " + good + " letters", x.models(), (int) Math.pow(letters, good));
                }
            }
        });
        test("MACHINES: a row of 30 letters goes five times round", () -> {
            TextSolver x = new TextSolver();
            x.text(5);
            termOf(x, "xxxxxx");
            ringOf(x, 6, 0);
            x.formula(TAKEN, 0, 0, 0, 0);
            x.formula(LONGER, 0, NONE, 30, 0);
            due("models()", x.models(), 32);
            x.good(0, 0, false);
            x.good(0, 5, true);
            due("not 29 letters: models()", x.models(), 0);
        });
        test("MACHINES: a STATE that no STEP leaves", () -> {
            TextSolver x = new TextSolver();
            x.text(5);
            termOf(x, "x");
            x.machine(6);
            x.step(0, 0, 0, 5);
            x.step(0, 5, 0, 5);
            x.step(0, 5, 1, 5);
            x.good(0, 5, true);
            x.formula(TAKEN, 0, 0, 0, 0);
            due("rows with a 0: models()", x.models(), 63 - 6);
        });
    }

    private static void sameAndLonger() {
        test("SAME: rows without letters", () -> {
            for (String a : EMPTY) {
                for (String b : EMPTY) {
                    so(SAME, a, b);
                }
                notSo(SAME, a, "0");
                notSo(SAME, "0", a);
            }
        });
        test("SAME: just b, not only how it begins or ends", () -> {
            so(SAME, "012", "012");
            notSo(SAME, "012", "01");
            notSo(SAME, "01", "012");
            notSo(SAME, "012", "12");
            notSo(SAME, "12", "012");
            notSo(SAME, "012", "011");
            notSo(SAME, "112", "012");
        });
        test("LONGER: at least c, not more", () -> {
            for (int c = -6; c <= 6; c++) {
                longerBy("000000", "000000".substring(0, 3), 3, c);
                longerBy("000", "000", 0, c);
                longerBy("0", "0000", -3, c);
            }
        });
        test("LONGER: rows without letters", () -> {
            for (String empty : EMPTY) {
                for (int c = -2; c <= 2; c++) {
                    longerBy(empty, empty, 0, c);
                    longerBy(empty, "1", -1, c);
                    longerBy("1", empty, 1, c);
                    dueSo(3, LONGER, 0 >= c, empty, NONE, c);
                }
            }
        });
        test("LONGER: b NONE is nothing", () -> {
            for (int c = -1; c <= 7; c++) {
                dueSo(3, LONGER, 6 >= c, "012012", NONE, c);
            }
        });
        test("LONGER: 30 letters at most, on both sides", () -> {
            for (int c : new int[] {-40, -31, -30, -29, 29, 30, 31, 40}) {
                TextSolver x = new TextSolver();
                x.text(5);
                termOf(x, "xxxxxx");
                termOf(x, "");
                x.formula(LONGER, 0, 1, c, 0);
                due("up to 30 longer by " + c, x.models(), c <= 0 ? 63 : c <= 30 ? 32 : 0);
                x.leave(0, true);
                x.formula(LONGER, 1, 0, c, 0);
                due("down to 30 shorter by " + c, x.models(), c <= -30 ? 63 : c < 0 ? 31 : 0);
            }
        });
        test("LONGER: c of -40 is always so, c of 40 never", () -> {
            so(LONGER, "", "222222", -40);
            so(LONGER, "222222", NONE, -40);
            notSo(LONGER, "222222", "", 40);
            notSo(LONGER, "222222", NONE, 40);
        });
    }

    private static void longerBy(String a, String b, int by, int c) {
        dueSo(3, LONGER, by >= c, a, b, c);
    }

    private static void beforeAndHas() {
        test("BEFORE: rows without letters", () -> {
            for (String empty : EMPTY) {
                notSo(BEFORE, empty, "");
                notSo(BEFORE, "", empty);
                so(BEFORE, empty, "0");
                notSo(BEFORE, "0", empty);
            }
        });
        test("BEFORE: a ends ahead of b, or b ahead of a", () -> {
            so(BEFORE, "01", "010");
            notSo(BEFORE, "010", "01");
            so(BEFORE, "2", "22");
            notSo(BEFORE, "22", "2");
        });
        test("BEFORE: no place at which they differ", () -> notSo(BEFORE, "0120", "0120"));
        test("BEFORE: the first place at which they differ, the first of all, the last of all", () -> {
            so(BEFORE, "02222", "1");
            notSo(BEFORE, "1", "02222");
            so(BEFORE, "111110", "111112");
            notSo(BEFORE, "111112", "111110");
            so(BEFORE, "0122", "0200");
            notSo(BEFORE, "0200", "0122");
        });
        test("HAS: none of the letters: always", () -> {
            for (String empty : EMPTY) {
                so(HAS, "", empty);
                so(HAS, empty, "");
                so(HAS, "012", empty);
                notSo(HAS, empty, "0");
            }
        });
        test("HAS: at the begin, at the end, all of it, not more", () -> {
            so(HAS, "001122", "00");
            so(HAS, "001122", "22");
            so(HAS, "001122", "001122");
            notSo(HAS, "00112", "001122");
            notSo(HAS, "01122", "001122");
            notSo(HAS, "1", "11");
        });
        test("HAS: side by side", () -> {
            notSo(HAS, "0101", "00");
            notSo(HAS, "0101", "11");
            so(HAS, "0101", "101");
            so(HAS, "000010", "001");
        });
    }

    private static void sums() {
        test("SUM: a row without letters: h is 0", () -> {
            for (String empty : EMPTY) {
                for (int b = 2; b <= 16; b++) {
                    so(SUM, empty, b, 0);
                    notSo(SUM, empty, b, 1);
                    notSo(SUM, empty, b, b - 1);
                }
            }
        });
        test("SUM: each letter, the least and the greatest", () -> {
            so(SUM, "0", 16, 1);
            so(SUM, "1", 16, 2);
            so(SUM, "2", 16, 3);
            so(SUM, "2", 2, 1);
            so(SUM, "22", 16, 0);
        });
        test("SUM: below 32 bits", () -> {
            dueSums("22222", "x2", 88750368);
            dueSums("12222", "x22", 1863757730);
        });
        test("SUM: just past the greatest number with a sign, h is below 0", () -> {
            dueSums("20000", "x00", -1602872797);
            dueSums("22222", "x22", -1543705885);
            dueSums("00000", "x000", -1635069824);
        });
        test("SUM: once round, h is above 0 again", () -> {
            dueSums("10000", "x000", 107740511);
            dueSums("12222", "x222", 1941914785);
        });
        test("SUM: near 0, near both ends of 32 bits", () -> {
            dueSums("22222", "101x2", -8340861);
            dueSums("00000", "12222x", -2132573889);
            dueSums("22222", "11200x", 2139490816);
        });
        test("SUM: round at each of 30 letters", () -> {
            dueSums("00000", "xxxxxx", 1300183520);
            dueSums("11111", "xxxxxx", -1694600256);
            dueSums("22222", "xxxxxx", -394416736);
        });
    }

    /** For each b just that c is the right one which h, a number with a sign, asks for. */
    private static void dueSums(String row, String parts, int h) {
        for (int b = 2; b <= 16; b++) {
            for (int c = 0; c < b; c++) {
                TextSolver x = withLetters(3);
                x.text(5);
                x.formula(SAME, termOf(x, "x"), termOf(x, row), 0, 0);
                x.formula(SUM, termOf(x, parts), b, c, 0);
                boolean isSo = ((long) h - c) % b == 0;
                due("SUM of " + parts + ", x " + row + ", b " + b + ", c " + c, x.models(), isSo ? 1 : 0);
            }
        }
    }

    private static void replacements() {
        test("REPLACED: c without letters: ahead of all", () -> {
            for (String empty : EMPTY) {
                so(REPLACED, "201", "01", empty, "2");
                notSo(REPLACED, "012", "01", empty, "2");
                notSo(REPLACED, "021", "01", empty, "2");
                notSo(REPLACED, "01", "01", empty, "2");
                so(REPLACED, "2", "", empty, "2");
            }
        });
        test("REPLACED: b without letters", () -> {
            for (String empty : EMPTY) {
                so(REPLACED, "", empty, "1", "2");
                notSo(REPLACED, "2", empty, "1", "2");
                so(REPLACED, "12", empty, "", "12");
            }
        });
        test("REPLACED: d without letters", () -> {
            for (String empty : EMPTY) {
                so(REPLACED, "02", "0112", "11", empty);
                so(REPLACED, "12", "0112", "01", empty);
                so(REPLACED, "01", "0112", "12", empty);
                so(REPLACED, "", "0112", "0112", empty);
                notSo(REPLACED, "0112", "0112", "11", empty);
            }
        });
        test("REPLACED: a without letters", () -> {
            for (String empty : EMPTY) {
                so(REPLACED, empty, "01", "01", "");
                notSo(REPLACED, empty, "01", "01", "2");
                notSo(REPLACED, empty, "01", "1", "");
                notSo(REPLACED, empty, "01", "2", "");
            }
        });
        test("REPLACED: all without letters", () -> {
            for (String empty : EMPTY) {
                so(REPLACED, empty, empty, empty, empty);
            }
        });
        test("REPLACED: just b, if there is none", () -> {
            so(REPLACED, "0101", "0101", "00", "2");
            notSo(REPLACED, "20101", "0101", "00", "2");
            notSo(REPLACED, "2", "0101", "00", "2");
            so(REPLACED, "01", "01", "011", "2");
            so(REPLACED, "01", "01", "001", "2");
            notSo(REPLACED, "2", "01", "001", "2");
        });
        test("REPLACED: at the begin, at the end, all of it", () -> {
            so(REPLACED, "2011", "0011", "0", "2");
            so(REPLACED, "002", "0011", "11", "2");
            so(REPLACED, "222222", "0011", "0011", "222222");
            so(REPLACED, "0011", "0011", "0011", "0011");
        });
        test("REPLACED: the first, not a later one, not all", () -> {
            so(REPLACED, "2101", "0101", "0", "2");
            notSo(REPLACED, "0121", "0101", "0", "2");
            notSo(REPLACED, "2121", "0101", "0", "2");
        });
        test("REPLACED: that which begins first, where two overlap", () -> {
            so(REPLACED, "20", "000", "00", "2");
            notSo(REPLACED, "02", "000", "00", "2");
            so(REPLACED, "210", "01010", "010", "2");
            notSo(REPLACED, "012", "01010", "010", "2");
            so(REPLACED, "02", "0010", "010", "2");
        });
        test("REPLACED: what was put is not looked at again", () -> {
            so(REPLACED, "0011", "011", "01", "001");
            notSo(REPLACED, "00011", "011", "01", "001");
        });
        test("REPLACED: a is all of it, not only how it begins or ends", () -> {
            notSo(REPLACED, "201", "011", "0", "2");
            notSo(REPLACED, "21", "011", "0", "2");
            notSo(REPLACED, "2110", "011", "0", "2");
            notSo(REPLACED, "1211", "011", "0", "2");
            so(REPLACED, "211", "011", "0", "2");
        });
    }

    private static void deniedAndLeftOut() {
        test("DENIED and LEFT OUT: neither at first, then each, then both", () -> {
            TextSolver x = new TextSolver();
            x.text(2);
            termOf(x, "x");
            x.formula(LONGER, 0, NONE, 2, 0);
            due("neither: models()", x.models(), 4);
            x.deny(0, true);
            due("DENIED: models()", x.models(), 3);
            x.leave(0, true);
            due("both: models()", x.models(), 7);
            x.deny(0, false);
            due("LEFT OUT: models()", x.models(), 7);
            x.leave(0, false);
            due("neither again: models()", x.models(), 4);
        });
        test("DENIED: each KIND is not so just where it is so", () -> {
            TextSolver x = new TextSolver();
            x.text(3);
            x.text(2);
            termOf(x, "x");
            termOf(x, "y");
            termOf(x, "0");
            ringOf(x, 2, 1);
            for (int kind = SAME; kind <= REPLACED; kind++) {
                x.formula(kind, 0, kind == TAKEN ? 0 : kind == SUM ? 2 : 1, kind == REPLACED ? 2 : 0, 2);
                int so = x.models();
                x.deny(kind, true);
                due("KIND " + kind + ": so " + so + ", not so", x.models(), 105 - so);
                x.leave(kind, true);
            }
        });
        test("LEFT OUT: all ten", () -> {
            TextSolver x = new TextSolver();
            x.text(1);
            termOf(x, "x");
            for (int f = 0; f < 10; f++) {
                x.formula(BEFORE, 0, 0, 0, 0);
            }
            for (int f = 0; f < 10; f++) {
                due("models() with " + f + " left out", x.models(), 0);
                x.leave(f, true);
            }
            due("models() with all left out", x.models(), 3);
            x.leave(9, false);
            due("models() with the tenth", x.models(), 0);
        });
    }

    private static final String[] CHANGES = {"clear(2)", "text(1)", "term()", "part(0, 1)", "machine(1)",
        "step(0, 0, 0, 0)", "good(0, 0, false)", "formula(0, 0, 0, 0, 0)", "deny(0, false)", "leave(0, false)"};

    /** Each of them is not refused by the small samples; those from step() on say what is so already. */
    private static int change(TextSolver x, int call) {
        switch (call) {
            case 0:
                return x.clear(2);
            case 1:
                return x.text(1);
            case 2:
                return x.term();
            case 3:
                return x.part(0, 1);
            case 4:
                return x.machine(1);
            case 5:
                return x.step(0, 0, 0, 0);
            case 6:
                return x.good(0, 0, false);
            case 7:
                return x.formula(SAME, 0, 0, 0, 0);
            case 8:
                return x.deny(0, false);
            default:
                return x.leave(0, false);
        }
    }

    private static void findings() {
        for (int call = 0; call < CHANGES.length; call++) {
            int made = call;
            test("behind " + CHANGES[call] + " no MODEL is at hand", () -> noModelBehind(made));
            test("behind " + CHANGES[call] + " there is no CORE", () -> noCoreBehind(made));
        }
        test("behind clear() no MODEL is at hand: a TEXT that comes then has no length", () -> {
            TextSolver x = Sample.MODEL.make();
            x.clear(2);
            x.text(2);
            due("length(0)", x.length(0), STATE);
            due("letter(0, 0)", x.letter(0, 0), STATE);
        });
        test("behind clear() there is no CORE: a FORMULA that comes then is in none", () -> {
            TextSolver x = Sample.CORE.make();
            x.clear(2);
            x.term();
            x.formula(BEFORE, 0, 0, 0, 0);
            due("inCore(0)", x.inCore(0), STATE);
        });
    }

    private static void noModelBehind(int call) {
        TextSolver x = Sample.MODEL.make();
        int answer = change(x, call);
        due("not refused: " + answer, answer < 0 ? answer : 0, 0);
        due("told(6)", x.told(6), 0);
        due("length(0)", x.length(0), call == 0 ? UNKNOWN : STATE);
        due("letter(0, 0)", x.letter(0, 0), call == 0 ? UNKNOWN : STATE);
        due("holds(0)", x.holds(0), call == 0 ? UNKNOWN : STATE);
        due("a MODEL comes to hand again: solve()", x.solve(), 1);
        due("told(6)", x.told(6), 1);
    }

    private static void noCoreBehind(int call) {
        TextSolver x = Sample.CORE.make();
        int answer = change(x, call);
        due("not refused: " + answer, answer < 0 ? answer : 0, 0);
        for (int f = 0; f < 5; f++) {
            due("inCore(" + f + ")", x.inCore(f), call == 0 ? UNKNOWN : STATE);
        }
        boolean hasModel = call == 0;
        due("it is to be found again: core()", x.core(), hasModel ? STATE : 2);
    }

    /** The models 1 and 01: rows that have a 1 and lead to state 1 by it. The last one is at hand. */
    private static TextSolver twoModels() {
        TextSolver x = new TextSolver();
        x.text(2);
        termOf(x, "x");
        termOf(x, "1");
        x.machine(2);
        x.step(0, 0, 1, 1);
        x.good(0, 1, true);
        x.formula(TAKEN, 0, 0, 0, 0);
        x.formula(HAS, 0, 1, 0, 0);
        due("models() before", x.models(), 2);
        x.model(1);
        return x;
    }

    private static void sees(Consumer<TextSolver> change, String... rows) {
        TextSolver x = twoModels();
        change.accept(x);
        dueModels("behind it", x, rows);
    }

    /** Models that were found before a change are not those behind it. */
    private static void changesAreSeen() {
        test("MODELS before all changes", () -> sees(x -> x.told(0), "1", "01"));
        test("MODELS behind clear()", () -> sees(x -> x.clear(3), ""));
        test("MODELS behind text()", () -> sees(x -> x.text(1), "1,", "1,0", "1,1", "01,", "01,0", "01,1"));
        test("MODELS behind a part() of a", () -> sees(x -> x.part(0, 1), "", "0", "00", "10", "11"));
        test("MODELS behind a part() of b", () -> sees(x -> x.part(1, 1)));
        test("MODELS behind step()", () -> sees(x -> x.step(0, 1, 1, 1), "1", "01", "11"));
        test("MODELS behind good()", () -> sees(x -> x.good(0, 0, true), "1", "01", "10", "11"));
        test("MODELS behind formula()", () -> sees(x -> x.formula(LONGER, 0, 1, 1, 0), "01"));
        test("MODELS behind deny()", () -> sees(x -> x.deny(0, true), "10", "11"));
        test("MODELS behind leave()", () -> sees(x -> x.leave(0, true), "1", "01", "10", "11"));
        for (int kind = SAME; kind <= REPLACED; kind++) {
            int k = kind;
            test("MODELS behind a part() of each TERM of KIND " + kind, () -> partsAreSeen(k));
        }
    }

    /** A part that comes when the models were counted is as one that was there before. */
    private static void partsAreSeen(int kind) {
        for (int term = 0; term < 4; term++) {
            for (int what : new int[] {0, 1, 8}) {
                TextSolver x = fourTerms();
                TextSolver twin = fourTerms();
                x.formula(kind, 0, kind == TAKEN ? 0 : kind == SUM ? 2 : 1, kind == SUM ? 0 : 2, 3);
                x.models();
                x.part(term, what);
                twin.part(term, what);
                twin.formula(kind, 0, kind == TAKEN ? 0 : kind == SUM ? 2 : 1, kind == SUM ? 0 : 2, 3);
                due("models() behind part(" + term + ", " + what + ")", x.models(), twin.models());
                x.model(x.models() / 2);
                twin.model(twin.models() / 2);
                dueRow("the middle one behind part(" + term + ", " + what + ")", x, 0, rowOf(twin, 0));
            }
        }
    }

    private static TextSolver fourTerms() {
        TextSolver x = new TextSolver();
        x.text(4);
        termOf(x, "x");
        termOf(x, "x1");
        termOf(x, "1");
        termOf(x, "");
        ringOf(x, 3, 1);
        return x;
    }

    public static void main(String[] args) {
        calls();
        lettersAndTexts();
        terms();
        machines();
        sameAndLonger();
        beforeAndHas();
        sums();
        replacements();
        deniedAndLeftOut();
        findings();
        changesAreSeen();
        end();
    }
}
