/** The boundary cases of Term I (THE TEXT) and of promises 1 to 8, each by a test of its own. */
public final class TextEdgesTest {
    private static final int LEAST = -2147483648;
    private static final int GREATEST = 2147483647;
    private static final String PART = " sleep 1 wake 2 3 on 4 work 5 tail 6;";
    private static final String SIX_PARTS = "part a" + PART + "part b" + PART + "part c" + PART + "part d" + PART + "part e" + PART + "part f" + PART;
    private static final String THREE_INPUTS = "input n 2 4;input m 7 7;input o 0 99;";
    private static final String SIX_VARS = "var u;var v;var w;var x;var y;var z;";
    private static final String DECLARED = "part p" + PART + "input n 2 4;var v;";
    private static final String[] OWN_WORDS = {"heart", "cache", "part", "sleep", "wake", "on", "work", "tail", "input", "var", "set", "use", "hold",
        "free", "wait", "touch", "if", "else", "while", "or", "and", "not", "all", "held", "tick", "min", "max"};

    public static void main(String[] args) {
        newObjects();
        tapes();
        ends();
        texts();
        whatGoes();
        manyTexts();
        faults();
        counts();
        letters();
        puts();
        wordsAndNumbers();
        blanks();
        hearts();
        caches();
        parts();
        inputs();
        orders();
        testsAndSums();
        names();
        tooMany();
        firstAlong();
        Check.finish("TextEdgesTest");
    }

    /** An object that knows all there is to know: run, put, MEASURED, FIT, over all, ASKS put together. */
    private static SipMeter full() {
        SipMeter x = Check.with(DECLARED + "hold p;use p n;set v = n;", 3);
        Check.due("put", x.put(0, 3), true);
        Check.due("run", x.run(-1), 0);
        Check.due("measure", x.measure(10), 1);
        Check.due("fit", x.fit(0) >= 0, true);
        Check.due("over", x.over(true) > 0, true);
        Check.due("ask", x.ask(3, 4, 5), 1);
        Check.due("together", x.together(0) > 0, true);
        return x;
    }

    // ---- promise 1

    private static void newObjects() {
        Check.edge("promise 1: a new object has nothing of any kind", () -> {
            SipMeter x = new SipMeter();
            for (int what = 0; what <= 5; what++) {
                Check.due("has(" + what + ")", x.has(what), 0);
            }
        });
        Check.edge("promise 1: a new object's tape is empty", () -> {
            SipMeter x = new SipMeter();
            Check.due("end(1)", x.end(1), false);
            Check.due("end(0)", x.end(0), true);
            Check.due("feed", x.feed(0, 0, 0, 0, 0), 20);
        });
        Check.edge("promise 1: nothing was run in a new object", () -> nothingWasRun(new SipMeter()));
        Check.edge("promise 1: a new object has no ORDERS to run, but runs", () -> {
            SipMeter x = new SipMeter();
            Check.due("run(0)", x.run(0), 0);
            int[] ran = {0, 0, 0, 0, 0, -1};
            for (int what = 0; what < 6; what++) {
                Check.due("ran(" + what + ")", x.ran(what), ran[what]);
            }
            Check.due("nobody pays nothing", x.pays(-1, 0), 0);
            Check.due("no LINE", x.pays(0, 0), -1);
            Check.due("no PART", x.spent(0, 0), -1);
            Check.due("no VAR", x.value(0), -2000000000);
        });
        Check.edge("promise 1: over, never of no ORDERS", () -> {
            SipMeter x = new SipMeter();
            Check.due("over(true)", x.over(true), 0);
            Check.due("over(false)", x.over(false), 0);
            Check.due("where(0)", x.where(0), -1);
            Check.due("never", x.never(), 0);
        });
        Check.edge("promise 1: two objects have nothing in common", () -> {
            SipMeter x = full();
            SipMeter y = new SipMeter();
            Check.due("LINES", y.has(3), 0);
            Check.due("run of the one", y.ran(0), -1);
            Check.due("text of the other", Check.text(y, "wait 1;"), 1);
            Check.due("LINES of the first", x.has(3), 3);
        });
    }

    private static void nothingWasRun(SipMeter x) {
        for (int what = 0; what < 6; what++) {
            Check.due("ran(" + what + ")", x.ran(what), -1);
        }
        Check.due("value", x.value(0), -2000000000);
        Check.due("spent", x.spent(0, 0), -1);
        Check.due("pays", x.pays(0, 0), -1);
        Check.due("pays of nobody", x.pays(-1, 1), -1);
        Check.due("stretches", x.stretches(0), -1);
        Check.due("stretch", x.stretch(0, 0, 0), -1);
        Check.due("lines", x.lines(0, 0), 0);
        Check.due("byTurns above", x.byTurns(0, 0, 0, true), -1000000000000000L);
        Check.due("byTurns below", x.byTurns(0, 0, 0, false), -1000000000000000L);
        Check.due("wasted", x.wasted(0), -1);
        Check.due("lasts", x.lasts(1000, 1, 1), -1);
    }

    // ---- promises 2 and 3

    private static SipMeter fed(int times) {
        SipMeter x = new SipMeter();
        for (int i = 1; i <= times; i++) {
            Check.due("feed " + i, x.feed(0x20202020, 0x20202020, 0x20202020, 0x20202020, 0x20202020), 20 * i);
        }
        return x;
    }

    private static void tapes() {
        Check.edge("promise 2: the highest byte of each number comes first", () -> {
            SipMeter x = new SipMeter();
            // "var abc;" "var defg" ";   "
            Check.due("feed", x.feed(0x76617220, 0x6162633b, 0x76617220, 0x64656667, 0x3b202020), 20);
            Check.due("text", x.text(), 0);
            String[] names = {"abc", "defg"};
            for (int v = 0; v < 2; v++) {
                for (int k = 0; k < names[v].length(); k++) {
                    Check.due("letter", x.letter(2, v, k), names[v].charAt(k));
                }
            }
        });
        Check.edge("promise 2: numbers below 0 are bytes above 127", () -> {
            SipMeter x = new SipMeter();
            Check.due("feed", x.feed(0x20202020, 0x2020ff20, LEAST, -1, 0), 20);
            Check.due("text", x.text(), -1);
            Check.due("the first byte that can't be", x.fault(1), 6);
        });
        Check.edge("promise 2: 900 bytes are not too many", () -> Check.due("text", fed(45).text(), 0));
        Check.edge("promise 2: 920 bytes would be too many", () -> {
            SipMeter x = fed(45);
            Check.due("feed", x.feed(0x78787878, 0x78787878, 0x78787878, 0x78787878, 0x78787878), -1);
            Check.due("it did nothing", x.end(900), true);
            Check.due("it did nothing", x.text(), 0);
        });
        Check.edge("promise 2: at 881 twenty more are too many", () -> {
            SipMeter x = fed(45);
            Check.due("end", x.end(881), true);
            Check.due("feed", x.feed(0, 0, 0, 0, 0), -1);
            Check.due("still 881", x.end(882), false);
            Check.due("still 881", x.text(), 0);
        });
        Check.edge("promise 2: at 880 twenty more are not too many", () -> {
            SipMeter x = fed(45);
            Check.due("end", x.end(880), true);
            Check.due("feed", x.feed(0, 0, 0, 0, 0), 900);
            Check.due("text", x.text(), -1);
            Check.due("behind those on the tape", x.fault(1), 880);
        });
        Check.edge("promise 2: what comes behind an end() covers what was cut off", () -> {
            SipMeter x = new SipMeter();
            // "var ab##", then "c;" behind "var ab"
            Check.due("feed", x.feed(0x76617220, 0x61622323, 0x23232323, 0x23232323, 0x23232323), 20);
            Check.due("end", x.end(6), true);
            Check.due("feed", x.feed(0x633b2020, 0x20202020, 0x20202020, 0x20202020, 0x20202020), 26);
            Check.due("text", x.text(), 0);
            Check.due("letter", x.letter(2, 0, 2), 'c');
        });
    }

    private static void ends() {
        Check.edge("promise 3: n is all of the tape", () -> {
            SipMeter x = fed(1);
            Check.due("end(20)", x.end(20), true);
            Check.due("end(20) again", x.end(20), true);
        });
        Check.edge("promise 3: n is one more than the tape has", () -> {
            SipMeter x = fed(1);
            Check.due("end(21)", x.end(21), false);
            Check.due("it did nothing", x.feed(0, 0, 0, 0, 0), 40);
        });
        Check.edge("promise 3: n is far above", () -> {
            SipMeter x = fed(1);
            Check.due("end(901)", x.end(901), false);
            Check.due("end(greatest)", x.end(GREATEST), false);
            Check.due("it did nothing", x.end(20), true);
        });
        Check.edge("promise 3: n is 0", () -> {
            SipMeter x = fed(2);
            Check.due("end(0)", x.end(0), true);
            Check.due("the tape is empty", x.feed(0, 0, 0, 0, 0), 20);
        });
        Check.edge("promise 3: n is below 0", () -> {
            SipMeter x = fed(2);
            Check.due("end(-1)", x.end(-1), false);
            Check.due("end(least)", x.end(LEAST), false);
            Check.due("it did nothing", x.feed(0, 0, 0, 0, 0), 60);
        });
        Check.edge("promise 3: what was cut off is gone", () -> {
            SipMeter x = fed(2);
            Check.due("end(5)", x.end(5), true);
            Check.due("end(6)", x.end(6), false);
            Check.due("end(5)", x.end(5), true);
        });
    }

    // ---- promise 4

    private static void texts() {
        Check.edge("promise 4: an empty tape is a text of no LINES", () -> Check.with("", 0));
        Check.edge("promise 4: blanks alone are a text of no LINES", () -> Check.with(" \n  \n", 0));
        Check.edge("promise 4: DECLARATIONS alone are a text of no LINES", () -> Check.with(DECLARED, 0));
        Check.edge("promise 4: one ORDER alone", () -> Check.with("wait 0;", 1));
        Check.edge("promise 4: a text of 900 bytes", () -> Check.with("wait 1;" + " ".repeat(886) + "wait 2;", 2));
        Check.edge("promise 4: the tape goes with a text", () -> {
            SipMeter x = Check.with("wait 1;", 1);
            Check.due("end(1)", x.end(1), false);
            Check.due("an empty text now", x.text(), 0);
            Check.due("LINES", x.has(3), 0);
        });
        Check.edge("promise 4: the tape goes with a text that is refused", () -> {
            SipMeter x = new SipMeter();
            Check.due("text", Check.text(x, "wait 1"), -1);
            Check.due("end(1)", x.end(1), false);
            Check.due("feed", x.feed(0, 0, 0, 0, 0), 20);
        });
    }

    private static void whatGoes() {
        Check.edge("promise 4: with a FAULT all stays", () -> {
            SipMeter x = full();
            int[] before = answers(x);
            for (String text : new String[] {"part q", "input q 0 5;var r;wait r", "#", "wait 1;wait 2;wait q;", DECLARED + DECLARED}) {
                Check.due("text", Check.text(x, text), -1);
                int[] behind = answers(x);
                for (int i = 0; i < before.length; i++) {
                    Check.due("answer " + i + " behind " + text, behind[i], before[i]);
                }
            }
        });
        Check.edge("promise 4: with a FAULT what is put stays", () -> {
            SipMeter x = full();
            Check.due("text", Check.text(x, "input k 9 9;wait"), -1);
            Check.due("run", x.run(-1), 0);
            Check.due("value", x.value(0), 3);
        });
        Check.edge("promise 4: without one nothing was run", () -> {
            SipMeter x = full();
            Check.due("the same text", Check.text(x, DECLARED + "hold p;use p n;set v = n;"), 3);
            nothingWasRun(x);
        });
        Check.edge("promise 4: without one nothing was put", () -> {
            SipMeter x = full();
            Check.due("the same text", Check.text(x, DECLARED + "hold p;use p n;set v = n;"), 3);
            Check.due("run", x.run(-1), 0);
            Check.due("its least", x.value(0), 2);
        });
        Check.edge("promise 4: without one nothing was MEASURED", () -> {
            SipMeter x = full();
            Check.due("the same text", Check.text(x, DECLARED + "hold p;use p n;set v = n;"), 3);
            Check.due("MEASURED", x.has(4), 0);
            Check.due("fit", x.fit(0), -1);
            Check.due("the first row", x.measure(1), 1);
        });
        Check.edge("promise 4: without one nothing was FIT", () -> {
            SipMeter x = full();
            Check.due("the same text", Check.text(x, DECLARED + "hold p;use p n;set v = n;"), 3);
            for (int what = 0; what < 4; what++) {
                Check.due("fitted", x.fitted(what), -1);
            }
        });
        Check.edge("promise 4: ASKS stay, refused or not", () -> {
            SipMeter x = full();
            Check.due("text", Check.text(x, "part"), -1);
            Check.due("ASKS", x.has(5), 1);
            Check.due("text", Check.text(x, "part q" + PART), 0);
            Check.due("ASKS", x.has(5), 1);
            Check.due("together", x.together(0), 2 * 3 + (4 + 6) * 4);
            Check.due("forget", x.forget(), 1);
        });
        Check.edge("promise 4: an empty text takes all away", () -> {
            SipMeter x = full();
            Check.due("text", x.text(), 0);
            for (int what = 0; what < 5; what++) {
                Check.due("has(" + what + ")", x.has(what), 0);
            }
            Check.due("never", x.never(), 0);
            Check.due("letter", x.letter(0, 0, 0), -1);
            Check.due("put", x.put(0, 3), false);
            Check.due("run", x.run(-1), 0);
            Check.due("sips", x.ran(1), 0);
        });
        Check.edge("promise 4: heart and cache are those of the new text", () -> {
            SipMeter x = Check.with("heart 7;cache 8 8 20;touch 1;touch 2;", 2);
            Check.due("run", x.run(-1), 0);
            Check.due("sips", x.ran(1), 7 * 22);
            Check.due("text", Check.text(x, "touch 1;touch 2;"), 2);
            Check.due("run", x.run(-1), 0);
            Check.due("sips", x.ran(1), 2);
            Check.due("MISSES", x.ran(2), 2);
        });
    }

    private static void again(SipMeter x, String text, int lines) {
        Check.due("text() of " + text, Check.text(x, text), lines);
    }

    /** What a text leaves behind might show but two or more texts later. */
    private static void manyTexts() {
        Check.edge("promise 4: a third text has nothing of the first one", () -> {
            SipMeter x = new SipMeter();
            again(x, "heart 9;cache 8 8 20;" + SIX_PARTS + THREE_INPUTS + SIX_VARS + "hold a;touch 1;touch 2;touch 3;", 4);
            Check.due("never", x.never(), 1);
            again(x, "", 0);
            again(x, "part a" + PART + "touch 1;touch 2;hold a;free a;", 4);
            Check.due("never", x.never(), 0);
            int[] many = {1, 0, 0, 4, 0, 0};
            for (int what = 0; what < 6; what++) {
                Check.due("has(" + what + ")", x.has(what), many[what]);
            }
            Check.due("run", x.run(-1), 0);
            Check.due("MISSES", x.ran(2), 2);
            // touch 0, touch 1, hold 2, WAKE 3 4, free 5, TAIL 6 .. 11
            Check.due("TICKS", x.ran(0), 12);
            Check.due("sips", x.ran(1), 6 + 3 + 6 + 4 + 24);
        });
        Check.edge("promise 4: a NAME of the first text is free in the third", () -> {
            SipMeter x = new SipMeter();
            again(x, "var a;var b;", 0);
            again(x, "var c;", 0);
            again(x, "var b;input a 0 1;", 0);
            Check.due("b", x.letter(2, 0, 0), 'b');
            Check.due("a", x.letter(1, 0, 0), 'a');
        });
        Check.edge("promise 4: a NAME of a text that was refused is free in the next", () -> {
            SipMeter x = new SipMeter();
            again(x, "var a;var b;var b;", -1);
            again(x, "var a;var b;", 0);
            again(x, "set a = 1;", -1);
            Check.due("its FAULT", x.fault(0), 3);
        });
        Check.edge("promise 4: texts of many SUMS, one behind another", () -> {
            SipMeter x = new SipMeter();
            for (int i = 0; i < 9; i++) {
                again(x, "var v;set v = " + "1+".repeat(400) + i + ";", 1);
                Check.due("run", x.run(-1), 0);
                Check.due("value", x.value(0), 400 + i);
            }
        });
        Check.edge("promise 4: what a refused text left open is shut in the next", () -> {
            SipMeter x = new SipMeter();
            for (int i = 0; i < 3; i++) {
                again(x, "wait((((((((", -1);
                again(x, "if all {".repeat(8), -1);
                again(x, "wait((((((((1))))))));", 1);
                again(x, "if all {".repeat(8) + "}".repeat(8), 8);
            }
        });
        Check.edge("promise 4: 60 LINES behind 60 LINES that were refused", () -> {
            SipMeter x = new SipMeter();
            again(x, "wait 1;".repeat(60) + "wait 1;", -1);
            Check.due("FAULT", x.fault(0), 5);
            again(x, "wait 1;".repeat(60), 60);
        });
        Check.edge("promise 4: a text that was refused leaves an earlier one whole", () -> {
            SipMeter x = new SipMeter();
            again(x, "part a" + PART + "hold a;wait 3;", 2);
            again(x, "part b sleep 9 wake 9 9 on 9 work 9 tail 9;heart 9;use b 9;free b;wait", -1);
            Check.due("run", x.run(-1), 0);
            Check.due("TICKS", x.ran(0), 7);
            Check.due("sips", x.ran(1), 7 + 1 + 6 + 16);
            Check.due("its NAME", x.letter(0, 0, 0), 'a');
            Check.due("never", x.never(), 1);
        });
    }

    private static int[] answers(SipMeter x) {
        return new int[] {x.has(0), x.has(1), x.has(2), x.has(3), x.has(4), x.has(5), x.letter(0, 0, 0), x.letter(1, 0, 0), x.letter(2, 0, 0),
            x.ran(0), x.ran(1), x.ran(4), x.value(0), x.spent(0, 2), x.pays(1, 1), x.stretches(0), x.stretch(0, 0, 1), (int) x.lines(0, 0),
            (int) x.byTurns(0, 0, 1, true), x.wasted(1), x.over(true), x.where(0), x.fit(0), x.fitted(0), x.fitted(3), x.together(0), x.later(0),
            x.never(), x.lasts(1000000, 3, 7)};
    }

    // ---- promises 5 to 8

    private static void faults() {
        Check.edge("promise 5: ahead of any text()", () -> {
            SipMeter x = new SipMeter();
            Check.due("fault(0)", x.fault(0), 0);
            Check.due("fault(1)", x.fault(1), -1);
        });
        Check.edge("promise 5: without a FAULT", () -> {
            SipMeter x = Check.with("wait 1;", 1);
            Check.due("fault(0)", x.fault(0), 0);
            Check.due("fault(1)", x.fault(1), -1);
        });
        Check.edge("promise 5: of the latest text() alone", () -> {
            SipMeter x = new SipMeter();
            Check.due("text", Check.text(x, "heart 1000;"), -1);
            Check.due("fault(0)", x.fault(0), 4);
            Check.due("fault(1)", x.fault(1), 6);
            Check.due("text", Check.text(x, "var a;var a;"), -1);
            Check.due("fault(0)", x.fault(0), 2);
            Check.due("fault(1)", x.fault(1), 10);
            Check.due("text", Check.text(x, "var a;"), 0);
            Check.due("fault(0)", x.fault(0), 0);
            Check.due("fault(1)", x.fault(1), -1);
        });
        Check.edge("promise 5: another what", () -> {
            SipMeter x = new SipMeter();
            Check.due("text", Check.text(x, "#"), -1);
            for (int what : new int[] {LEAST, -1, 2, 3, GREATEST}) {
                Check.due("fault(" + what + ")", x.fault(what), -1);
            }
        });
        Check.edge("promise 5: place 0", () -> Check.refused(1, "@#"));
        Check.edge("promise 5: place 899", () -> Check.refused(1, " ".repeat(899) + "@#"));
        Check.edge("promise 5: place 900, the text's length", () -> Check.refused(1, "wait 1" + " ".repeat(894) + "@"));
    }

    private static void counts() {
        Check.edge("promise 6: the greatest of each kind", () -> {
            SipMeter x = Check.with(SIX_PARTS + THREE_INPUTS + SIX_VARS + "wait 0;".repeat(60), 60);
            int[] many = {6, 3, 6, 60, 12, 6};
            for (int i = 1; i <= 12; i++) {
                Check.due("measure", x.measure(i), i);
                Check.due("ask", x.ask(i, 1, 0), i <= 6 ? i : -1);
            }
            for (int what = 0; what < 6; what++) {
                Check.due("has(" + what + ")", x.has(what), many[what]);
            }
        });
        Check.edge("promise 6: none for others", () -> {
            SipMeter x = full();
            for (int what : new int[] {LEAST, -1, 6, 7, GREATEST}) {
                Check.due("has(" + what + ")", x.has(what), -1);
            }
        });
    }

    private static void letters() {
        Check.edge("promise 7: a NAME of one letter", () -> {
            SipMeter x = Check.with("var a;", 0);
            Check.due("letter 0", x.letter(2, 0, 0), 97);
            Check.due("letter 1", x.letter(2, 0, 1), -1);
        });
        Check.edge("promise 7: a NAME of six letters", () -> {
            SipMeter x = Check.with("input azazaz 0 1;", 0);
            for (int k = 0; k < 6; k++) {
                Check.due("letter " + k, x.letter(1, 0, k), k % 2 == 0 ? 97 : 122);
            }
            Check.due("letter 6", x.letter(1, 0, 6), -1);
        });
        Check.edge("promise 7: six z and six a", () -> {
            SipMeter x = Check.with("part zzzzzz" + PART + "part aaaaaa" + PART, 0);
            for (int k = 0; k < 6; k++) {
                Check.due("z", x.letter(0, 0, k), 122);
                Check.due("a", x.letter(0, 1, k), 97);
            }
        });
        Check.edge("promise 7: letter k is none", () -> {
            SipMeter x = Check.with("var abc;", 0);
            for (int k : new int[] {LEAST, -1, 3, 6, GREATEST}) {
                Check.due("letter " + k, x.letter(2, 0, k), -1);
            }
        });
        Check.edge("promise 7: the last one of each kind, and the one behind", () -> {
            SipMeter x = Check.with(SIX_PARTS + THREE_INPUTS + SIX_VARS, 0);
            int[] last = {5, 2, 5};
            char[] names = {'f', 'o', 'z'};
            for (int kind = 0; kind < 3; kind++) {
                Check.due("the last", x.letter(kind, last[kind], 0), names[kind]);
                Check.due("behind", x.letter(kind, last[kind] + 1, 0), -1);
                Check.due("ahead", x.letter(kind, -1, 0), -1);
                Check.due("far", x.letter(kind, GREATEST, 0), -1);
                Check.due("far", x.letter(kind, LEAST, 0), -1);
            }
        });
        Check.edge("promise 7: no such kind", () -> {
            SipMeter x = full();
            for (int kind : new int[] {LEAST, -1, 3, 4, GREATEST}) {
                Check.due("kind " + kind, x.letter(kind, 0, 0), -1);
            }
        });
    }

    private static void puts() {
        String text = "input n 2 4;var v;set v = n;";
        Check.edge("promise 8: the least", () -> put(text, 2, true));
        Check.edge("promise 8: the greatest", () -> put(text, 4, true));
        Check.edge("promise 8: one below the least", () -> put(text, 1, false));
        Check.edge("promise 8: one above the greatest", () -> put(text, 5, false));
        Check.edge("promise 8: far away", () -> {
            put(text, LEAST, false);
            put(text, GREATEST, false);
        });
        Check.edge("promise 8: no such INPUT", () -> {
            SipMeter x = Check.with(THREE_INPUTS, 0);
            for (int input : new int[] {LEAST, -1, 3, GREATEST}) {
                Check.due("put", x.put(input, 3), false);
            }
            Check.due("no INPUT at all", new SipMeter().put(0, 0), false);
        });
        Check.edge("promise 8: one that can be but in one way", () -> {
            SipMeter x = Check.with(THREE_INPUTS, 0);
            Check.due("put", x.put(1, 7), true);
            Check.due("put", x.put(1, 6), false);
            Check.due("put", x.put(1, 8), false);
        });
        Check.edge("promise 8: a refused one does nothing to what was put", () -> {
            SipMeter x = Check.with(text, 1);
            Check.due("put", x.put(0, 3), true);
            Check.due("put", x.put(0, 5), false);
            Check.due("run", x.run(-1), 0);
            Check.due("value", x.value(0), 3);
        });
    }

    private static void put(String text, int n, boolean due) {
        SipMeter x = Check.with(text, 1);
        Check.due("put(0, " + n + ")", x.put(0, n), due);
        Check.due("run", x.run(-1), 0);
        Check.due("value", x.value(0), due ? n : 2);
    }

    // ---- Term I

    private static void wordsAndNumbers() {
        Check.edge("I: a WORD of one letter, of six", () -> Check.with("var a;var abcdef;set a = abcdef;", 1));
        Check.edge("I: a 7th letter, at itself", () -> Check.refused(1, "var abcdef@g;"));
        Check.edge("I: a 7th letter of many", () -> Check.refused(1, "var abcdef@ghijkl;"));
        Check.edge("I: a 7th letter where a NUMBER must be", () -> Check.refused(1, "heart abcdef@g;"));
        Check.edge("I: a 7th letter where an ORDER may be", () -> Check.refused(1, "waitin@g 1;"));
        Check.edge("I: a 7th letter at the text's end", () -> Check.refused(1, "abcdef@g"));
        Check.edge("I: six letters at the text's end", () -> Check.refused(1, "var abcdef@"));
        Check.edge("I: a NUMBER of four digits", () -> {
            SipMeter x = Check.with("heart 0999;wait 0000;", 1);
            Check.due("run", x.run(-1), 0);
            Check.due("sips", x.ran(1), 999);
        });
        Check.edge("I: a 5th digit, at itself", () -> Check.refused(1, "heart 0000@1;"));
        Check.edge("I: a 5th digit of many", () -> Check.refused(1, "heart 1000@0000;"));
        Check.edge("I: a 5th digit where a NAME must be", () -> Check.refused(1, "var 1234@5;"));
        Check.edge("I: a 5th digit in a SUM", () -> Check.refused(1, "wait 0000@0;"));
        Check.edge("I: four digits at the text's end", () -> Check.refused(1, "heart 0001@"));
        Check.edge("I: a great letter is no letter", () -> Check.refused(1, "@Wait 1;"));
        Check.edge("I: the letters' neighbours are none", () -> {
            Check.refused(1, "@`");
            Check.refused(1, "@{");
            Check.refused(1, "var a@`;");
        });
        Check.edge("I: the digits' neighbours are none", () -> {
            Check.refused(1, "heart 1@:;");
            Check.refused(1, "heart 1@/;");
        });
        Check.edge("I: bytes above 127 are no signs", () -> {
            Check.refused(1, "@\u0080");
            Check.refused(1, "wait 1@\u00bb");
            Check.refused(1, "wait 1@\u00ff;");
        });
    }

    private static void blanks() {
        Check.edge("I: a blank where one likes", () -> Check.with(" \n wait\n(\n1 + 2\n)\n;\n", 1));
        Check.edge("I: no blank but between WORDS and NUMBERS", () -> Check.with("var v;set v=1;if v=1{wait(v)*2;}else{wait 3;}", 4));
        Check.edge("I: a WORD and a NUMBER side by side need one", () -> Check.refused(1, "wait@1;"));
        Check.edge("I: a NUMBER and a WORD side by side need one", () -> Check.refused(1, DECLARED + "if 1 < 2@and 1 < 2 {}"));
        Check.edge("I: 10 does for one", () -> Check.with("wait\n1;", 1));
        Check.edge("I: 9 is none", () -> Check.refused(1, "wait@\t1;"));
        Check.edge("I: 13 is none", () -> Check.refused(1, "wait 1;@\r\n"));
        Check.edge("I: 0 is none", () -> Check.refused(1, "wait 1;@\0"));
        Check.edge("I: 11, 31, 33 and 160 are none", () -> {
            Check.refused(1, "@\u000b");
            Check.refused(1, "@\u001f");
            Check.refused(1, "@!");
            Check.refused(1, "@\u00a0");
        });
        Check.edge("I: a blank parts a WORD into two", () -> Check.refused(1, "@wa it 1;"));
        Check.edge("I: a blank parts a NUMBER into two", () -> Check.refused(1, "wait 1 @2;"));
    }

    private static void sips(String text, int due) {
        SipMeter x = new SipMeter();
        Check.due("text() of " + text, Check.text(x, text) >= 0, true);
        Check.due("run", x.run(-1), 0);
        Check.due("sips of " + text, x.ran(1), due);
    }

    private static void hearts() {
        Check.edge("I: without a heart it is 1", () -> sips("wait 9;", 10));
        Check.edge("I: heart 0", () -> sips("heart 0;wait 9;", 0));
        Check.edge("I: heart 999", () -> sips("heart 999;wait 9;", 9990));
        Check.edge("I: heart 1000", () -> Check.refused(4, "heart @1000;"));
        Check.edge("I: of heart the last one counts", () -> sips("heart 5;heart 3;wait 9;", 30));
        Check.edge("I: heart without a NUMBER", () -> Check.refused(1, "heart @;"));
    }

    private static void cache(String cache, String touches, int misses, int ticks) {
        SipMeter x = new SipMeter();
        Check.due("text() of " + cache, Check.text(x, cache + touches) >= 0, true);
        Check.due("run", x.run(-1), 0);
        Check.due("MISSES of " + cache + touches, x.ran(2), misses);
        Check.due("TICKS of " + cache + touches, x.ran(0), ticks);
    }

    private static void caches() {
        Check.edge("I: without a cache it is 1 1 0", () -> cache("", "touch 0;touch 0;touch 1;touch 0;", 3, 4));
        Check.edge("I: SETS 8", () -> cache("cache 8 1 1;", "touch 0;touch 7;touch 0;touch 7;touch 8;touch 0;", 4, 10));
        Check.edge("I: SETS 0", () -> Check.refused(4, "cache @0 1 0;"));
        Check.edge("I: SETS 9", () -> Check.refused(4, "cache @9 1 0;"));
        Check.edge("I: WIDE 8", () -> cache("cache 1 8 0;", "touch 0;touch 7;touch 8;touch 15;touch 16;", 3, 5));
        Check.edge("I: WIDE 0", () -> Check.refused(4, "cache 1 @0 0;"));
        Check.edge("I: WIDE 9", () -> Check.refused(4, "cache 1 @9 0;"));
        Check.edge("I: MISS 0", () -> cache("cache 1 1 0;", "touch 5;", 1, 1));
        Check.edge("I: MISS 20", () -> cache("cache 1 1 20;", "touch 5;", 1, 21));
        Check.edge("I: MISS 21", () -> Check.refused(4, "cache 1 1 @21;"));
        Check.edge("I: of cache the last one counts", () -> cache("cache 1 1 20;cache 8 1 2;", "touch 0;touch 1;touch 0;", 2, 7));
    }

    private static void parts() {
        String[] words = {"sleep ", " wake ", " ", " on ", " work ", " tail "};
        int[] most = {999, 20, 999, 999, 999, 50};
        for (int i = 0; i < 6; i++) {
            int k = i;
            Check.edge("I: the least of " + words[i], () -> Check.with("part a " + numbers(words, most, k, "0") + ";", 0));
            Check.edge("I: the greatest of " + words[i], () -> Check.with("part a " + numbers(words, most, k, "" + most[k]) + ";", 0));
            Check.edge("I: one more than the greatest of " + words[i],
                () -> Check.refused(4, "part a " + numbers(words, most, k, "@" + (most[k] + 1)) + ";"));
        }
        Check.edge("I: all greatest ones count", () -> {
            SipMeter x = Check.with("heart 999;part a sleep 999 wake 20 998 on 997 work 996 tail 50;use a 50;", 1);
            Check.due("run", x.run(-1), 0);
            Check.due("TICKS", x.ran(0), 121);
            Check.due("sips", x.ran(1), 999 * 71 + 999 + 20 * 998 + 50 * 997 + 50 * 996);
        });
        Check.edge("I: a PART's words must be there in their order", () -> Check.refused(1, "part a sleep 1 @on 2 wake 1 1 work 1 tail 1;"));
        Check.edge("I: 6 PARTS", () -> Check.due("PARTS", Check.with(SIX_PARTS, 0).has(0), 6));
        Check.edge("I: a 7th PART", () -> Check.refused(5, SIX_PARTS + "@part g" + PART));
    }

    private static String numbers(String[] words, int[] most, int k, String number) {
        StringBuilder row = new StringBuilder();
        for (int i = 0; i < words.length; i++) {
            row.append(words[i]).append(i == k ? number : most[i]);
        }
        return row.toString();
    }

    private static void inputs() {
        Check.edge("I: an INPUT of 0 .. 99", () -> {
            SipMeter x = Check.with("input n 0 99;", 0);
            Check.due("least", x.put(0, 0), true);
            Check.due("greatest", x.put(0, 99), true);
        });
        Check.edge("I: an INPUT's least above 99", () -> Check.refused(4, "input n @100 100;"));
        Check.edge("I: an INPUT's greatest above 99", () -> Check.refused(4, "input n 99 @100;"));
        Check.edge("I: an INPUT's greatest as its least", () -> Check.with("input n 0 0;input m 99 99;", 0));
        Check.edge("I: an INPUT's greatest below its least", () -> Check.refused(4, "input n 1 @0;"));
        Check.edge("I: 3 INPUTS", () -> Check.due("INPUTS", Check.with(THREE_INPUTS, 0).has(1), 3));
        Check.edge("I: a 4th INPUT", () -> Check.refused(5, THREE_INPUTS + "@input a 0 1;"));
        Check.edge("I: 6 VARS", () -> Check.due("VARS", Check.with(SIX_VARS, 0).has(2), 6));
        Check.edge("I: a 7th VAR", () -> Check.refused(5, SIX_VARS + "@var a;"));
    }

    private static void orders() {
        Check.edge("I: 60 LINES", () -> Check.with("wait 0;".repeat(60), 60));
        String[] orders = {"set v = 1;", "use p 1;", "hold p;", "free p;", "wait 1;", "touch 1;", "if all {}", "while all {}"};
        for (String order : orders) {
            Check.edge("I: a 61st LINE that is " + order, () -> Check.refused(5, DECLARED + "wait 0;".repeat(60) + "@" + order));
        }
        Check.edge("I: a 61st LINE of which but the first word is there", () -> Check.refused(5, "wait 0;".repeat(60) + "@set"));
        Check.edge("I: a 61st LINE inside another", () -> Check.refused(5, "while all {" + "wait 0;".repeat(59) + "@wait 0;}"));
        Check.edge("I: else is none of 60", () -> Check.with("if all {" + "wait 0;".repeat(29) + "} else {" + "wait 0;".repeat(30) + "}", 60));
        Check.edge("I: LINES are numbered as they begin, else is none", () -> {
            SipMeter x = Check.with("if all { wait 0; } else { wait 1; } while tick < 7 { wait 2; } wait 3;", 6);
            Check.due("run", x.run(-1), 0);
            // if 0, wait 1, while 2 and 6, wait 3 4 5, wait 7 .. 10
            int[] pays = {1, 1, 0, 2, 3, 4};
            for (int line = 0; line < 6; line++) {
                Check.due("pays of " + line, x.pays(line, 0), pays[line]);
            }
        });
        Check.edge("I: { } may hold no ORDERS", () -> Check.with("if all {} if all {} else {} while 1 < 0 {}", 3));
        Check.edge("I: else behind an if alone", () -> Check.refused(1, "while all {} @else {}"));
        Check.edge("I: a DECLARATION behind an ORDER", () -> {
            for (String word : new String[] {"heart 1;", "cache 1 1 1;", "part a" + PART, "input a 0 1;", "var a;"}) {
                Check.refused(1, "wait 1;@" + word);
                Check.refused(1, "if all { @" + word + "}");
            }
        });
        Check.edge("I: a text that ends too soon, behind a WORD, a NUMBER or a sign", () -> {
            String text = "part p sleep 1 wake 2 3 on 4 work 5 tail 6;input n 2 4;if held p and[1<2]{use p min(1,n);}else{hold p;}";
            for (int length = 1; length < text.length(); length++) {
                String start = text.substring(0, length);
                boolean amid = Character.isLetterOrDigit(text.charAt(length - 1)) && Character.isLetterOrDigit(text.charAt(length));
                boolean whole = length == text.indexOf("input") || length == text.indexOf("if") || length == text.indexOf("else");
                if (!amid && !whole) {
                    Check.refused(1, start + "@");
                }
            }
        });
    }

    private static void testsAndSums() {
        Check.edge("I: 8 ( that are open at once", () -> Check.with("wait((((((((1))))))));", 1));
        Check.edge("I: a 9th (", () -> Check.refused(5, "wait((((((((@(1)))))))));"));
        Check.edge("I: 8 [ that are open at once", () -> Check.with("if[[[[[[[[all]]]]]]]]{}", 1));
        Check.edge("I: a 9th [", () -> Check.refused(5, "if[[[[[[[[@[all]]]]]]]]]{}"));
        Check.edge("I: 8 { that are open at once", () -> Check.with("if all{".repeat(8) + "}".repeat(8), 8));
        Check.edge("I: a 9th {", () -> Check.refused(5, "if all{".repeat(8) + "if all@{"));
        Check.edge("I: a 9th { of an else", () -> Check.refused(5, "if all{".repeat(8) + "if all@{}else{}"));
        Check.edge("I: 8 of all kinds together", () -> Check.with("if all{if all{if all{if[[[min((1),2)<3]]]{}}}}", 4));
        Check.edge("I: a 9th of all kinds together", () -> Check.refused(5, "if all{if all{if all{if[[[min((@(1)),2)<3]]]{}}}}"));
        Check.edge("I: the ( of min and max are counted", () -> Check.refused(5, "wait(((((((min(max@(1,2),3))))))));"));
        Check.edge("I: what is shut is open no more", () -> Check.with("wait((((((((1))))))))+((((((((2))))))));if[all]{}if[[[[[[[[all]]]]]]]]{}", 3));
        Check.edge("I: a 9th one where none may be is FAULT 1", () -> {
            Check.refused(1, "wait((((((((1@(");
            Check.refused(1, "wait((((((((@[");
            Check.refused(1, "wait((((((((@{");
        });
        Check.edge("I: not as often as one likes", () -> Check.with("if " + "not ".repeat(219) + "all {}", 1));
        Check.edge("I: a SUM as long as the tape", () -> {
            SipMeter x = Check.with("var v;set v = " + "1+".repeat(442) + "1;", 1);
            Check.due("run", x.run(-1), 0);
            Check.due("value", x.value(0), 443);
        });
        Check.edge("I: a SUM has no sign of its own", () -> Check.refused(1, "wait @-1;"));
        Check.edge("I: two SIGNS in one FACT", () -> Check.refused(1, "if 1 < 2 @< 3 {}"));
        Check.edge("I: a SUM is no TEST", () -> Check.refused(1, "if 1 @{}"));
        Check.edge("I: a TEST is no SUM", () -> Check.refused(1, "wait 1 @< 2;"));
        Check.edge("I: a NUMBER of 999 in a SUM", () -> Check.with("wait 999;", 1));
        Check.edge("I: a NUMBER of 1000 in a SUM", () -> Check.refused(4, "wait @1000;"));
        Check.edge("I: a NUMBER of 1000 in a TEST", () -> Check.refused(4, "if tick < @1000 {}"));
    }

    private static void names() {
        for (String word : OWN_WORDS) {
            Check.edge("I: no NAME is " + word, () -> {
                Check.refused(1, "var @" + word + ";");
                Check.refused(1, "part @" + word + PART);
                Check.refused(1, "input @" + word + " 0 1;");
            });
            if (word.length() < 6) {
                Check.edge("I: a NAME may be " + word + " and one letter more", () -> Check.with("var " + word + "x;set " + word + "x=1;", 1));
            }
            if (word.length() > 2) {
                String less = word.substring(0, word.length() - 1);
                Check.edge("I: a NAME may be " + less, () -> Check.with("var " + less + ";set " + less + "=1;", 1));
            }
        }
        Check.edge("I: no other word is an OWN WORD", () -> Check.with("var ask;var orders;var tape;var sum;var sips;var run;set ask=run;", 1));
        String[] kinds = {"part k" + PART, "input k 0 1;", "var k;"};
        for (String first : kinds) {
            for (String second : kinds) {
                Check.edge("I: NAMES are unlike ones of all kinds: " + first + second, () -> Check.refused(2, first + second.replace(" k", " @k")));
            }
        }
        Check.edge("I: a NAME is there from its own DECLARATION on", () -> Check.refused(2, "part a" + PART + "var b;var @a;"));
        Check.edge("I: NAMES with a common beginning are unlike", () -> Check.with("var a;var aa;var aaa;var ab;var ba;var b;", 0));
        Check.edge("I: set of a PART, of an INPUT, of none", () -> {
            Check.refused(3, DECLARED + "set @p = 1;");
            Check.refused(3, DECLARED + "set @n = 1;");
            Check.refused(3, DECLARED + "set @q = 1;");
        });
        for (String order : new String[] {"use @? 1;", "hold @?;", "free @?;", "if held @? {}"}) {
            Check.edge("I: no PART in " + order, () -> {
                for (String name : new String[] {"n", "v", "q", "pp"}) {
                    Check.refused(3, DECLARED + order.replace("?", name));
                }
            });
        }
        Check.edge("I: a NUMBER, a sign or an OWN WORD where a NAME must be", () -> {
            for (String wrong : new String[] {"5", "(1)", "tick", "min(1,2)", ";", "all"}) {
                for (String order : new String[] {"use @?;", "use @? 1;", "hold @?;", "free @?;", "set @? = 1;", "if held @? {}", "if held @? < 9 {}"}) {
                    Check.refused(1, DECLARED + order.replace("?", wrong));
                }
                Check.refused(1, "var @" + wrong + ";");
                Check.refused(1, "input @" + wrong + " 0 1;");
                Check.refused(1, "part @" + wrong + PART);
            }
        });
        Check.edge("I: neither INPUT nor VAR in a SUM", () -> {
            Check.refused(3, DECLARED + "wait @p;");
            Check.refused(3, DECLARED + "wait n+v*@q;");
            Check.refused(3, DECLARED + "if v < @p {}");
            Check.refused(3, DECLARED + "touch max(n,@nn);");
        });
    }

    private static void tooMany() {
        Check.edge("I: a 7th PART whose NAME is there already", () -> Check.refused(5, SIX_PARTS + "@part a" + PART));
        Check.edge("I: a 7th PART without a NAME", () -> Check.refused(5, SIX_PARTS + "@part"));
        Check.edge("I: a 7th VAR without a NAME", () -> Check.refused(5, SIX_VARS + " @var ;"));
        Check.edge("I: a 4th INPUT whose NUMBERS can't be", () -> Check.refused(5, THREE_INPUTS + "@input a 100 0;"));
        Check.edge("I: heart and cache may be there as often as one likes", () -> Check.with("heart 1;".repeat(50) + "cache 1 1 1;".repeat(40), 0));
    }

    private static void firstAlong() {
        Check.edge("I: 1 ahead of 2", () -> Check.refused(1, "var a @var a;"));
        Check.edge("I: 2 ahead of 1", () -> Check.refused(2, "var a;var @a a"));
        Check.edge("I: 3 ahead of 4", () -> Check.refused(3, "wait @q+1000;"));
        Check.edge("I: 4 ahead of 3", () -> Check.refused(4, "wait @1000+q;"));
        Check.edge("I: 4 ahead of 1", () -> Check.refused(4, "heart @1000"));
        Check.edge("I: 1 ahead of 5", () -> Check.refused(1, SIX_VARS.substring(0, SIX_VARS.length() - 1) + " @var a;"));
        Check.edge("I: 5 ahead of 2", () -> Check.refused(5, SIX_VARS + "@var z;"));
        Check.edge("I: a byte that can't be, far ahead of a FAULT", () -> Check.refused(4, "heart @1000;" + " ".repeat(800) + "#"));
        Check.edge("I: a 7th letter far behind a FAULT", () -> Check.refused(3, "wait @q;abcdefgh"));
    }
}
