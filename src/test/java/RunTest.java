/** Promises 9 to 18: RUNS, what they spent, who pays, STRETCHES, TURNS, what is WASTED. */
public final class RunTest {
    private static final String PART = "part a sleep 1 wake 2 3 on 4 work 5 tail 6;";
    private static final long NO_SHARE = -1000000000000000L;

    public static void main(String[] args) {
        sums();
        tests();
        oneUse();
        bounds();
        longRuns();
        emptyRuns();
        cutUses();
        cutHolds();
        touches();
        holds();
        heldAtTheEnd();
        tailOfNone();
        usesSideBySide();
        turnsBelowZero();
        manyLines();
        wrongInputs();
        Check.finish("RunTest");
    }

    private static void value(String sum, int due) {
        SipMeter x = Check.with("input n 3 9;var v;var w;set v = " + sum + ";", 1);
        Check.due("run", x.run(-1), 0);
        Check.due(sum, x.value(0), due);
        Check.due("the other VAR", x.value(1), 0);
        Check.due("no VAR 2", x.value(2), -2000000000);
        Check.due("no VAR -1", x.value(-1), -2000000000);
    }

    private static void sums() {
        value("7/2", 3);
        value("0-7/2", -3);
        value("(0-7)/2", -4);
        value("(0-7)%2", 1);
        value("7%(0-2)", -1);
        value("7/(0-2)", -4);
        value("(0-8)/2", -4);
        value("(0-8)%3", 1);
        value("5/0", 0);
        value("5%0", 0);
        value("(0-5)%(3-3)", 0);
        value("999*999", 998001);
        value("999*999*999", 1000000);
        value("999*999*(0-999)", -1000000);
        value("999*999+999*999", 1000000);
        value("0-999*999-999*999", -1000000);
        value("999*999*999-1", 999999);
        value("(0-999*999*999)/(0-1)", 1000000);
        value("2+3*4", 14);
        value("20/3*3", 18);
        value("20-3-4", 13);
        value("20-(3-4)", 21);
        value("100%7*2/3", 1);
        value("min(3,2)*10+max(3,2)", 23);
        value("max(0-5,min(n,4))", 3);
        value("tick", 1);
        value("n*w+0007", 7);
    }

    private static void test(String test, boolean due) {
        SipMeter x = Check.with("input n 3 9;var v;" + PART + "hold a;free a;hold a;if " + test + " { set v = 1; } else { set v = 2; }", 6);
        Check.due("run", x.run(-1), 0);
        Check.due(test, x.value(0), due ? 1 : 2);
        Check.due("own TICKS", x.ran(4), 5);
    }

    private static void tests() {
        test("all", true);
        test("not all", false);
        test("not not all", true);
        test("not not not all", false);
        test("held a", true);
        test("not held a", false);
        test("n = 3", true);
        test("n < 3", false);
        test("n > 2", true);
        test("n > 3", false);
        test("n+1 < n*2", true);
        test("all or all and not all", true);
        test("not all and not all or all", true);
        test("not all and [not all or all]", false);
        test("not [all and not all]", true);
        test("not n = 4 and all", true);
        test("not all or not all", false);
        test("(n) = (3)", true);
        test("tick = 6", true);
    }

    private static void oneUse() {
        SipMeter x = Check.with(PART + "use a 3;", 1);
        Check.due("run", x.run(-1), 0);
        int[] ran = {12, 52, 0, 0, 1, -1, -1};
        for (int what = 0; what < 7; what++) {
            Check.due("ran(" + what + ")", x.ran(what), ran[what]);
        }
        Check.due("ran(-1)", x.ran(-1), -1);
        int[] spent = {1, 2, 6, 3, -1};
        for (int what = 0; what < 5; what++) {
            Check.due("spent(0, " + what + ")", x.spent(0, what), spent[what]);
        }
        Check.due("pays(0, 0)", x.pays(0, 0), 51);
        Check.due("pays(0, 1)", x.pays(0, 1), 51);
        Check.due("pays(-1, 0)", x.pays(-1, 0), 1);
        Check.due("pays(-1, 1)", x.pays(-1, 1), 1);
        Check.due("stretches", x.stretches(0), 1);
        Check.due("its first TICK", x.stretch(0, 0, 0), 1);
        Check.due("behind its last", x.stretch(0, 0, 1), 12);
        Check.due("ON in it", x.stretch(0, 0, 2), 6);
        Check.due("lines", x.lines(0, 0), 1);
        Check.due("byTurns above", x.byTurns(0, 0, 0, true), 42);
        Check.due("byTurns below", x.byTurns(0, 0, 0, false), 1);
        Check.due("wasted", x.wasted(0), 24);
    }

    private static void bounds() {
        SipMeter x = Check.with(PART + "use a 999;", 1);
        Check.due("run", x.run(-1), 0);
        Check.due("use above 50", x.spent(0, 3), 50);
        x = Check.with(PART + "use a 0-1;", 1);
        Check.due("run", x.run(-1), 0);
        Check.due("use below 0", x.spent(0, 3), 0);
        Check.due("wakes all the same", x.spent(0, 1), 2);
        Check.due("TAIL all the same", x.spent(0, 2), 6);
        x = Check.with("wait 101;wait 0-1;wait 100;", 3);
        Check.due("run", x.run(-1), 0);
        Check.due("wait within 0 .. 100", x.ran(0), 203);
        x = Check.with("heart 0;wait 9;", 1);
        Check.due("run", x.run(0), 0);
        Check.due("a heart of 0", x.ran(1), 0);
        x = Check.with("heart 5;heart 7;wait 9;", 1);
        Check.due("run", x.run(-1), 0);
        Check.due("the last heart counts", x.ran(1), 70);
        x = Check.with("var v;set v = tick;wait tick+1;set v = v*100+tick;", 3);
        Check.due("run", x.run(-1), 0);
        Check.due("tick has the LINE's own", x.value(0), 106);
    }

    private static void longRuns() {
        SipMeter x = Check.with("while all {}", 1);
        Check.due("run", x.run(-1), 1);
        Check.due("TICKS", x.ran(0), 2000);
        Check.due("own TICKS", x.ran(4), 2000);
        Check.due("the LINE", x.ran(5), 0);
        x = Check.with("while tick < 999+999+1 {} wait 0;", 2);
        Check.due("2000 TICKS are whole", x.run(-1), 0);
        Check.due("TICKS", x.ran(0), 2000);
        Check.due("no LINE", x.ran(5), -1);
        x = Check.with("while tick < 999+999+1 {} wait 0; wait 0;", 3);
        Check.due("the 2001st TICK", x.run(-1), 1);
        Check.due("TICKS", x.ran(0), 2000);
        Check.due("the LINE", x.ran(5), 2);
        x = Check.with("while tick < 999+951 {} wait 100;", 2);
        Check.due("amid a wait", x.run(-1), 1);
        Check.due("the LINE", x.ran(5), 1);
        x = Check.with("part a sleep 1 wake 0 0 on 4 work 5 tail 50;while tick < 999+999 {} use a 1;", 2);
        Check.due("TICKS go on behind 2000", x.run(-1), 0);
        Check.due("TICKS", x.ran(0), 2050);
        Check.due("the heart sips nothing in these", x.ran(1), 2000 + 1999 + 5 + 200);
        x = Check.with("part a sleep 1 wake 0 0 on 4 work 5 tail 50;while tick < 999+999 {} use a 2;", 2);
        Check.due("a long one has no TAIL", x.run(-1), 1);
        Check.due("TICKS", x.ran(0), 2000);
        Check.due("nothing WASTED", x.wasted(1), 0);
        x = Check.with("part a sleep 0 wake 0 0 on 4 work 5 tail 0;while all { use a 0; }", 2);
        Check.due("a PURSE, too, LONG first", x.run(2000), 1);
        Check.due("a PURSE, too", x.run(1999), 2);
    }

    private static void emptyRuns() {
        SipMeter x = Check.with("heart 5;wait 10;", 1);
        int[][] rows = {{0, 2, 0}, {4, 2, 0}, {5, 2, 1}, {9, 2, 1}, {10, 2, 2}, {54, 2, 10}, {55, 0, 11}, {1000, 0, 11}, {-1, 0, 11}};
        for (int[] row : rows) {
            Check.due("run(" + row[0] + ")", x.run(row[0]), row[1]);
            Check.due("TICKS", x.ran(0), row[2]);
            Check.due("sips", x.ran(1), row[2] * 5);
            Check.due("the LINE", x.ran(5), row[1] == 2 ? 0 : -1);
            Check.due("own TICKS", x.ran(4), row[2] > 0 ? 1 : 0);
        }
        Check.due("run(-2)", x.run(-2), -2);
        Check.due("run(least)", x.run(-2147483648), -2);
        Check.due("the latest stays", x.ran(0), 11);
        Check.due("run(greatest)", x.run(2147483647), 0);
        x = Check.with(PART + "use a 3;", 1);
        Check.due("the LINE's TICKS alone", x.run(28), 0);
        Check.due("TAIL beyond the PURSE", x.ran(1), 52);
        Check.due("one less", x.run(27), 2);
        Check.due("sips", x.ran(1), 22);
        Check.due("works", x.spent(0, 3), 2);
        Check.due("no TAIL", x.spent(0, 2), 0);
    }

    private static void cutUses() {
        SipMeter x = Check.with("part a sleep 0 wake 2 10 on 1 work 1 tail 3;use a 1;use a 2;wait 3;use a 1;", 4);
        Check.due("cut off ahead of waking", x.run(1), 2);
        Check.due("it was none", x.stretches(0), 0);
        Check.due("asleep", x.spent(0, 0), 1);
        Check.due("pays", x.pays(0, 0), 1);
        Check.due("amid waking", x.run(12), 2);
        Check.due("it was one", x.stretches(0), 1);
        Check.due("lines", x.lines(0, 0), 1);
        Check.due("behind its last", x.stretch(0, 0, 1), 2);
        Check.due("pays", x.pays(0, 1), 12);
        Check.due("byTurns", x.byTurns(0, 0, 0, true), 0);
        Check.due("byTurns", x.byTurns(0, 0, 0, false), 1);
        Check.due("nothing WASTED", x.wasted(0), 0);
        // own 1, waking 2 * 11, work 2: 25; own of the second one 2: 27; its first work TICK 2
        Check.due("cut off ahead of working", x.run(28), 2);
        Check.due("the LINE", x.ran(5), 1);
        Check.due("it was none", x.lines(0, 0), 1);
        Check.due("ON is the first one's", x.pays(0, 0), 26);
        Check.due("its own TICK", x.pays(1, 0), 1);
        Check.due("amid working", x.run(30), 2);
        Check.due("it was one", x.lines(0, 0), 3);
        Check.due("ON in it", x.stretch(0, 0, 2), 1);
        Check.due("by RULE 1 the first one pays ON", x.pays(0, 1), 26);
        Check.due("by RULE 1 the second one", x.pays(1, 1), 3);
        // the second use ends at 31; wait 2 * 3 takes its TAIL, and one TICK of heart: 38; own tick of the last: 39
        Check.due("TAIL is gone, the last use cut off", x.run(39), 2);
        Check.due("the LINE", x.ran(5), 3);
        Check.due("one STRETCH", x.stretches(0), 1);
        Check.due("WASTED by the second one", x.wasted(1), 3);
        Check.due("not by the last one", x.wasted(3), 0);
    }

    private static void cutHolds() {
        SipMeter x = Check.with("part a sleep 0 wake 2 10 on 1 work 1 tail 3;hold a;wait 1;free a;", 3);
        Check.due("cut off ahead of waking", x.run(11), 2);
        Check.due("it was none", x.stretches(0), 0);
        Check.due("amid waking", x.run(12), 2);
        Check.due("it was one", x.lines(0, 0), 1);
        Check.due("nothing ON", x.stretch(0, 0, 2), 0);
        Check.due("held, then cut off", x.run(23), 2);
        Check.due("the LINE", x.ran(5), 1);
        Check.due("nothing WASTED", x.wasted(0), 0);
        Check.due("held for it", x.run(27), 2);
        Check.due("byTurns", x.byTurns(0, 0, 0, true), 22);
        Check.due("ahead of the free", x.lines(0, 0), 1);
        Check.due("whole", x.run(29), 0);
        Check.due("freed", x.lines(0, 0), 5);
        Check.due("TAIL", x.ran(0), 9);
        Check.due("WASTED by the free", x.wasted(2), 3);
        Check.due("the free pays by TURNS", x.byTurns(0, 0, 2, true), 0);
        Check.due("the hold pays by TURNS", x.byTurns(0, 0, 0, true), 26);
    }

    private static void touches() {
        SipMeter x = Check.with("cache 2 4 3;touch 0;touch 3;touch 4;touch 8;touch 0;touch 0-1;touch 999+1;touch 999+999;", 8);
        Check.due("run", x.run(-1), 0);
        Check.due("MISSES", x.ran(2), 5);
        Check.due("touches", x.ran(3), 8);
        Check.due("TICKS", x.ran(0), 23);
        Check.due("cut off amid a MISS", x.run(2), 2);
        Check.due("MISSES", x.ran(2), 1);
        Check.due("touches", x.ran(3), 1);
        Check.due("empty again", x.run(-1), 0);
        Check.due("MISSES again", x.ran(2), 5);
        x = Check.with("touch 5;touch 5;touch 6;", 3);
        Check.due("run", x.run(-1), 0);
        Check.due("1 1 0 without a cache", x.ran(2), 2);
        Check.due("TICKS", x.ran(0), 3);
        x = Check.with("cache 8 8 20;cache 1 8 1;touch 7;touch 8;touch 7;", 3);
        Check.due("run", x.run(-1), 0);
        Check.due("the last cache counts", x.ran(0), 6);
    }

    private static void holds() {
        SipMeter x = Check.with(PART + "free a;hold a;hold a;use a 1;free a;free a;wait 6;use a 1;", 8);
        Check.due("run", x.run(-1), 0);
        // free 0, hold 1 and its WAKE 2 3, hold 4, use 5 and its work 6, free 7, free 8, wait 9 to 15, use 16
        Check.due("stretches", x.stretches(0), 2);
        Check.due("first TICK", x.stretch(0, 0, 0), 2);
        Check.due("behind its last", x.stretch(0, 0, 1), 14);
        Check.due("lines", x.lines(0, 0), 1 << 1 | 1 << 3 | 1 << 4);
        Check.due("second one", x.stretch(0, 1, 0), 17);
        Check.due("second one's end", x.stretch(0, 1, 1), 26);
        Check.due("second one's lines", x.lines(0, 1), 1 << 7);
        Check.due("hold pays", x.pays(1, 0), 1 + 2 + 6 + 8);
        Check.due("a hold of what is held pays its heart", x.pays(2, 0), 1);
        Check.due("use pays", x.pays(3, 0), 1 + 1 + 5 + 4);
        Check.due("free pays", x.pays(4, 0), 1 + 24);
        Check.due("a free of what isn't held pays its heart", x.pays(5, 0), 1);
        Check.due("WASTED by the free", x.wasted(4), 24);
        Check.due("WASTED by the use", x.wasted(7), 24);
        Check.due("not by the hold", x.wasted(1), 0);
        // ON 4, 5, 7 and TAIL 8 to 13: nine times 4 through three
        Check.due("by RULE 1", x.pays(1, 1), 1 + 2 + 6 + 12);
        Check.due("by RULE 1", x.pays(3, 1), 1 + 1 + 5 + 12);
        Check.due("by RULE 1", x.pays(4, 1), 1 + 12);
    }

    private static void heldAtTheEnd() {
        SipMeter x = Check.with(PART + "part b sleep 0 wake 0 0 on 1 work 1 tail 3;hold a;use a 1;use b 1;", 3);
        Check.due("run", x.run(-1), 0);
        // hold 0, WAKE 1 2, use 3, work 4, use 5, work 6, b's TAIL 7 8 9
        Check.due("till b has no TAIL left", x.ran(0), 10);
        Check.due("a is ON in these, too", x.spent(0, 2), 6);
        Check.due("nothing WASTED of a", x.wasted(1), 0);
        Check.due("WASTED of b", x.wasted(2), 3);
        Check.due("held for the hold", x.byTurns(0, 0, 0, true), 7 * 4 + 6 - (6 * 4 + 6) / 2);
        x = Check.with(PART + "hold a;use a 0;", 2);
        Check.due("run", x.run(-1), 0);
        Check.due("a held one has no TAIL", x.ran(0), 4);
        Check.due("used in its last TICK", x.lines(0, 0), 3);
    }

    private static void tailOfNone() {
        SipMeter x = Check.with("part a sleep 2 wake 0 0 on 5 work 7 tail 0;hold a;free a;use a 0;use a 1;use a 1;", 5);
        Check.due("run", x.run(-1), 0);
        Check.due("stretches", x.stretches(0), 3);
        Check.due("held for one TICK", x.stretch(0, 0, 1) - x.stretch(0, 0, 0), 1);
        Check.due("freed in it", x.lines(0, 0), 3);
        Check.due("RULE 0: the hold", x.pays(0, 0), 6);
        Check.due("RULE 0: the free", x.pays(1, 0), 1);
        Check.due("RULE 1: one more for the first", x.pays(0, 1), 4);
        Check.due("RULE 1: the free", x.pays(1, 1), 3);
        Check.due("a use of no TICKS is in none", x.lines(0, 1), 1 << 3);
        Check.due("the next", x.lines(0, 2), 1 << 4);
        Check.due("byTurns", x.byTurns(0, 0, 0, true), 5);
        Check.due("nobody", x.pays(-1, 0), 2 * 4);
    }

    private static void usesSideBySide() {
        // TAIL ends with the second one's own TICK: it wakes again, in the same STRETCH
        SipMeter x = Check.with("part a sleep 0 wake 1 8 on 2 work 3 tail 2;use a 1;wait 0;use a 1;", 3);
        Check.due("run", x.run(-1), 0);
        Check.due("one STRETCH", x.stretches(0), 1);
        Check.due("waking twice", x.spent(0, 1), 2);
        Check.due("behind its last", x.stretch(0, 0, 1), 9);
        Check.due("lines", x.lines(0, 0), 5);
        Check.due("WASTED by the last one alone", x.wasted(0), 0);
        Check.due("WASTED by the last one alone", x.wasted(2), 4);
        Check.due("byTurns, two rows", x.byTurns(0, 0, 0, true), 14);
        Check.due("byTurns, two rows", x.byTurns(0, 0, 2, true), 14);
    }

    private static void turnsBelowZero() {
        SipMeter x = Check.with("part a sleep 0 wake 1 1 on 0 work 0 tail 2;use a 0;use a 0;use a 3;use a 0;use a 0;", 5);
        Check.due("run", x.run(-1), 0);
        Check.due("one STRETCH", x.lines(0, 0), 31);
        for (int line = 0; line < 5; line++) {
            Check.due("above", x.byTurns(0, 0, line, true), line == 2 ? -1 : 1);
            Check.due("below", x.byTurns(0, 0, line, false), 3);
        }
    }

    private static void manyLines() {
        String part = "part a sleep 0 wake 0 0 on 1 work 1 tail 2;";
        SipMeter x = Check.with(part + "use a 1;".repeat(8), 8);
        Check.due("run", x.run(-1), 0);
        Check.due("eight LINES", x.lines(0, 0), 255);
        Check.due("the last of eight", x.byTurns(0, 0, 7, true) > 0, true);
        x = Check.with(part + "use a 1;".repeat(9), 9);
        Check.due("run", x.run(-1), 0);
        Check.due("nine LINES", x.lines(0, 0), 511);
        Check.due("none by TURNS", x.byTurns(0, 0, 0, true), NO_SHARE);
        Check.due("none by TURNS", x.byTurns(0, 0, 8, false), NO_SHARE);
        x = Check.with(part + "wait 0;".repeat(59) + "use a 1;", 60);
        Check.due("run", x.run(-1), 0);
        Check.due("LINE 59", x.lines(0, 0), 1L << 59);
        Check.due("LINE 59 by TURNS", x.byTurns(0, 0, 59, true), 3);
        Check.due("LINE 59 pays", x.pays(59, 1), 2 + 1 + 2);
        // The costs of one RUN are not those of the next.
        x = Check.with("input n 1 5;" + part + "use a n;", 1);
        Check.due("run", x.run(-1), 0);
        Check.due("n = 1", x.byTurns(0, 0, 0, true), 3);
        Check.due("put", x.put(0, 5), true);
        Check.due("the RUN is the old one", x.byTurns(0, 0, 0, true), 3);
        Check.due("run", x.run(-1), 0);
        Check.due("n = 5", x.byTurns(0, 0, 0, true), 7);
    }

    private static void wrongInputs() {
        SipMeter x = Check.with(PART + "var v;use a 3;wait 1;", 2);
        Check.due("run", x.run(-1), 0);
        int[] wrong = {-2147483648, -2, -1, 2, 60, 64, 2147483647};
        for (int n : wrong) {
            Check.due("value(" + n + ")", x.value(n), -2000000000);
            Check.due("spent(" + n + ", 0)", x.spent(n, 0), -1);
            Check.due("stretches(" + n + ")", x.stretches(n), -1);
            Check.due("stretch(" + n + ", 0, 0)", x.stretch(n, 0, 0), -1);
            Check.due("stretch(0, " + n + ", 0)", x.stretch(0, n, 0), -1);
            Check.due("lines(" + n + ", 0)", x.lines(n, 0), 0);
            Check.due("lines(0, " + n + ")", x.lines(0, n), 0);
            Check.due("byTurns(" + n + ", 0, 0)", x.byTurns(n, 0, 0, true), NO_SHARE);
            Check.due("byTurns(0, " + n + ", 0)", x.byTurns(0, n, 0, true), NO_SHARE);
            Check.due("byTurns(0, 0, " + n + ")", x.byTurns(0, 0, n, true), NO_SHARE);
            Check.due("wasted(" + n + ")", x.wasted(n), -1);
            Check.due("pays(0, " + n + ")", x.pays(0, n), -1);
            Check.due("pays(-1, " + n + ")", x.pays(-1, n), -1);
            if (n != -1) {
                Check.due("pays(" + n + ", 0)", x.pays(n, 0), -1);
            }
            if (n != 2) {
                Check.due("spent(0, " + n + ")", x.spent(0, n), -1);
                Check.due("stretch(0, 0, " + n + ")", x.stretch(0, 0, n), -1);
                Check.due("ran(" + n + ")", x.ran(n), -1);
            }
        }
        Check.due("stretch(0, 0, 3)", x.stretch(0, 0, 3), -1);
        Check.due("a LINE that is none of its LINES", x.byTurns(0, 0, 1, false), NO_SHARE);
    }
}
