/** The boundary cases of ASKS, TOGETHER, NEVER LET GO and of promises 24 to 29, each by a test of its own. */
public final class AskEdgesTest {
    private static final int LEAST = -2147483648;
    private static final int GREATEST = 2147483647;
    // WAKE of 10 in all, ON 3, TAIL of 2
    private static final String PART = "part a sleep 1 wake 2 5 on 3 work 9 tail 2;";
    private static final String PARTS = PART + "part b sleep 0 wake 0 0 on 1 work 1 tail 0;var v;";

    public static void main(String[] args) {
        asks();
        forgets();
        costs();
        likeOnes();
        togetherRefused();
        laters();
        never();
        neverOnSomeWay();
        lasts();
        lastsRefused();
        Check.finish("AskEdgesTest");
    }

    private static void asked(SipMeter x, int[]... asks) {
        for (int[] ask : asks) {
            Check.due("ask(" + ask[0] + ", " + ask[1] + ", " + ask[2] + ")", x.ask(ask[0], ask[1], ask[2]) > 0, true);
        }
    }

    private static int[] ask(int tick, int ticks, int later) {
        return new int[] {tick, ticks, later};
    }

    private static void together(String part, int cost, int[] later, int[]... asks) {
        SipMeter x = new SipMeter();
        Check.due("text() of " + part, Check.text(x, part) >= 0, true);
        asked(x, asks);
        Check.due("together", x.together(0), cost);
        for (int i = 0; i < later.length; i++) {
            Check.due("later(" + i + ")", x.later(i), later[i]);
        }
        Check.due("later behind", x.later(later.length), -1);
        Check.due("together again", x.together(0), cost);
    }

    private static int[] row(int... numbers) {
        return numbers;
    }

    // ---- promises 24 and 25

    private static void refusedAsk(int tick, int ticks, int later) {
        SipMeter x = new SipMeter();
        Check.due("ask(" + tick + ", " + ticks + ", " + later + ")", x.ask(tick, ticks, later), -1);
        Check.due("it did nothing", x.has(5), 0);
        Check.due("it did nothing", x.ask(1, 1, 1), 1);
    }

    private static void asks() {
        Check.edge("promise 24: TICK 0", () -> Check.due("ask", new SipMeter().ask(0, 5, 2), 1));
        Check.edge("promise 24: TICK 200", () -> Check.due("ask", new SipMeter().ask(200, 5, 2), 1));
        Check.edge("promise 24: TICK -1", () -> refusedAsk(-1, 5, 2));
        Check.edge("promise 24: TICK 201", () -> refusedAsk(201, 5, 2));
        Check.edge("promise 24: 1 TICK long", () -> Check.due("ask", new SipMeter().ask(7, 1, 2), 1));
        Check.edge("promise 24: 20 TICKS long", () -> Check.due("ask", new SipMeter().ask(7, 20, 2), 1));
        Check.edge("promise 24: no TICKS long", () -> refusedAsk(7, 0, 2));
        Check.edge("promise 24: 21 TICKS long", () -> refusedAsk(7, 21, 2));
        Check.edge("promise 24: not later", () -> Check.due("ask", new SipMeter().ask(7, 5, 0), 1));
        Check.edge("promise 24: 5 later", () -> Check.due("ask", new SipMeter().ask(7, 5, 5), 1));
        Check.edge("promise 24: -1 later", () -> refusedAsk(7, 5, -1));
        Check.edge("promise 24: 6 later", () -> refusedAsk(7, 5, 6));
        Check.edge("promise 24: far away", () -> {
            for (int far : new int[] {LEAST, GREATEST}) {
                refusedAsk(far, 5, 2);
                refusedAsk(7, far, 2);
                refusedAsk(7, 5, far);
            }
        });
        Check.edge("promise 24: 6 ASKS, a 7th", () -> {
            SipMeter x = Check.with(PART, 0);
            for (int i = 1; i <= 6; i++) {
                Check.due("ask", x.ask(0, 1, 0), i);
            }
            Check.due("a 7th", x.ask(100, 1, 0), -1);
            Check.due("six", x.has(5), 6);
            Check.due("it did nothing", x.together(0), 10 + 9);
        });
        Check.edge("promise 24: ahead of any text()", () -> Check.due("ask", new SipMeter().ask(7, 5, 2), 1));
    }

    private static void forgets() {
        Check.edge("promise 25: none to forget", () -> Check.due("forget", new SipMeter().forget(), 0));
        Check.edge("promise 25: six, then none", () -> {
            SipMeter x = Check.with(PART, 0);
            for (int i = 1; i <= 6; i++) {
                Check.due("ask", x.ask(i, 1, 0), i);
            }
            Check.due("forget", x.forget(), 6);
            Check.due("forget", x.forget(), 0);
            Check.due("none", x.has(5), 0);
            Check.due("together", x.together(0), -1);
        });
        Check.edge("promise 25: there is room again", () -> {
            SipMeter x = Check.with(PART, 0);
            for (int i = 1; i <= 6; i++) {
                Check.due("ask", x.ask(i * 20, 1, 0), i);
            }
            Check.due("forget", x.forget(), 6);
            Check.due("ask", x.ask(5, 1, 0), 1);
            Check.due("together", x.together(0), 10 + 9);
        });
    }

    // ---- promises 26 and 27

    private static void costs() {
        Check.edge("III: one ASK: a WAKE, its TICKS, TAIL TICKS", () -> together(PART, 10 + 3 * (20 + 2), row(0), ask(200, 20, 5)));
        Check.edge("III: without TAIL", () -> together("part a sleep 1 wake 2 5 on 3 work 9 tail 0;", 10 + 3, row(0), ask(0, 1, 5)));
        Check.edge("III: a WAKE of 20 TICKS of 999, ON 999, TAIL 50", () ->
            together("part a sleep 1 wake 20 999 on 999 work 9 tail 50;", 999 * (20 + 20 + 50), row(0), ask(0, 20, 5)));
        Check.edge("III: neither WAKE nor ON", () -> together("part a sleep 9 wake 9 0 on 0 work 9 tail 9;", 0, row(0, 0), ask(0, 20, 5), ask(5, 1, 5)));
        Check.edge("III: the second one begins with the first one's last TAIL TICK", () ->
            together(PART, 10 + 3 * (4 + 3), row(0, 0), ask(0, 3, 0), ask(4, 1, 0)));
        Check.edge("III: the second one begins just behind it: side by side", () ->
            together(PART, 10 + 3 * (5 + 3), row(0, 0), ask(0, 3, 0), ask(5, 1, 0)));
        Check.edge("III: the second one begins a TICK later: two WAKES", () ->
            together(PART, 20 + 3 * (5 + 3), row(0, 0), ask(0, 3, 0), ask(6, 1, 0)));
        Check.edge("III: the first one comes a TICK later for it", () -> together(PART, 10 + 3 * (5 + 3), row(1, 0), ask(0, 3, 1), ask(6, 1, 0)));
        Check.edge("III: one within another", () -> together(PART, 10 + 3 * 22, row(0, 0), ask(0, 20, 0), ask(5, 3, 0)));
        Check.edge("III: told in the other order", () -> together(PART, 10 + 3 * 8, row(0, 1), ask(6, 1, 0), ask(0, 3, 1)));
        Check.edge("III: as late as can be", () -> together(PART, 10 + 3 * 3, row(5, 0), ask(0, 1, 5), ask(5, 1, 0)));
        Check.edge("III: six, all as late as can be but the last", () ->
            together(PART, 10 + 3 * 3, row(5, 4, 3, 2, 1, 0), ask(0, 1, 5), ask(1, 1, 5), ask(2, 1, 5), ask(3, 1, 5), ask(4, 1, 5), ask(5, 1, 5)));
        Check.edge("III: six of their own rows", () ->
            together(PART, 6 * (10 + 9), row(0, 0, 0, 0, 0, 0), ask(0, 1, 5), ask(40, 1, 5), ask(80, 1, 5), ask(120, 1, 5), ask(160, 1, 5), ask(200, 1, 5)));
        Check.edge("III: work does not count, nor sleep", () -> together("part a sleep 99 wake 0 0 on 0 work 99 tail 9;", 0, row(0), ask(3, 3, 3)));
    }

    private static void likeOnes() {
        Check.edge("III: of like ones the least sum", () -> together(PART, 10 + 9, row(0, 0), ask(7, 1, 5), ask(7, 1, 5)));
        Check.edge("III: of like ones the least sum, though its first ask comes later", () -> {
            // TICK 11 is bridged by the first 1 later or by the second 3 later
            String part = "part a sleep 0 wake 1 9 on 2 work 0 tail 0;";
            together(part, 9 + 2 * 8, row(1, 0, 0, 0), ask(10, 1, 1), ask(8, 1, 5), ask(5, 6, 0), ask(12, 1, 0));
            together(part, 9 + 2 * 8, row(0, 1, 0, 0), ask(8, 1, 5), ask(10, 1, 1), ask(5, 6, 0), ask(12, 1, 0));
        });
        Check.edge("III: of like sums the first ask's lesser first", () -> {
            // one of the two must come in TICK 1, so that all three are side by side
            String part = "part a sleep 0 wake 1 9 on 0 work 0 tail 0;";
            together(part, 9, row(0, 1, 0), ask(0, 1, 1), ask(0, 1, 1), ask(2, 1, 0));
            together(part, 9, row(0, 0, 1), ask(2, 1, 0), ask(0, 1, 1), ask(0, 1, 1));
        });
        Check.edge("III: cost counts ahead of the sum", () -> together("part a sleep 0 wake 0 0 on 1 work 0 tail 0;", 1, row(5, 0), ask(0, 1, 5), ask(5, 1, 5)));
        Check.edge("III: later costs nothing, but more of it is not less", () -> together(PART, 20 + 3 * 6, row(0, 0), ask(0, 1, 5), ask(100, 1, 5)));
    }

    private static void togetherRefused() {
        Check.edge("promise 26: no ASK", () -> Check.due("together", Check.with(PART, 0).together(0), -1));
        Check.edge("promise 26: no such PART", () -> {
            SipMeter x = Check.with(PART, 0);
            asked(x, ask(1, 1, 1));
            for (int part : new int[] {LEAST, -1, 1, 6, GREATEST}) {
                Check.due("together(" + part + ")", x.together(part), -1);
            }
        });
        Check.edge("promise 26: no PART at all", () -> {
            SipMeter x = new SipMeter();
            asked(x, ask(1, 1, 1));
            Check.due("together", x.together(0), -1);
        });
        Check.edge("promise 26: each PART for itself", () -> {
            SipMeter x = Check.with(PARTS, 0);
            asked(x, ask(0, 1, 0), ask(9, 1, 0));
            Check.due("a", x.together(0), 20 + 18);
            Check.due("b", x.together(1), 2);
        });
        Check.edge("promise 26: by the PART's own WAKE, ON and TAIL", () -> {
            SipMeter x = Check.with(PART + "part b sleep 0 wake 3 100 on 7 work 1 tail 4;", 0);
            asked(x, ask(0, 1, 0), ask(9, 2, 0));
            Check.due("a", x.together(0), 2 * 10 + 3 * (3 + 4));
            Check.due("b", x.together(1), 2 * 300 + 7 * (5 + 6));
        });
        Check.edge("promise 26: the latest RUN stays", () -> {
            SipMeter x = Check.with(PART + "use a 1;", 1);
            Check.due("run", x.run(-1), 0);
            asked(x, ask(0, 1, 0));
            Check.due("together", x.together(0), 19);
            Check.due("TICKS", x.ran(0), 6);
        });
    }

    private static void laters() {
        Check.edge("promise 27: ahead of any", () -> {
            SipMeter x = Check.with(PART, 0);
            asked(x, ask(1, 1, 1));
            Check.due("later", x.later(0), -1);
        });
        Check.edge("promise 27: no such ASK", () -> {
            SipMeter x = Check.with(PART, 0);
            asked(x, ask(1, 1, 1), ask(2, 1, 1));
            Check.due("together", x.together(0), 19);
            for (int i : new int[] {LEAST, -1, 2, 5, 6, GREATEST}) {
                Check.due("later(" + i + ")", x.later(i), -1);
            }
            Check.due("later(0)", x.later(0), 1);
            Check.due("later(1)", x.later(1), 0);
        });
        Check.edge("promise 27: an ASK that came behind it", () -> {
            SipMeter x = Check.with(PART, 0);
            asked(x, ask(1, 1, 1));
            Check.due("together", x.together(0), 19);
            asked(x, ask(2, 1, 1));
            Check.due("the first", x.later(0), 0);
            Check.due("it was none of them", x.later(1), -1);
        });
        Check.edge("promise 27: the latest that was not NONE stays", () -> {
            SipMeter x = Check.with(PART, 0);
            asked(x, ask(0, 1, 5), ask(5, 1, 0));
            Check.due("together", x.together(0), 19);
            Check.due("together(1)", x.together(1), -1);
            Check.due("later(0)", x.later(0), 5);
            Check.due("forget", x.forget(), 2);
            Check.due("together(0)", x.together(0), -1);
            Check.due("later(0)", x.later(0), 5);
        });
        Check.edge("promise 27: fewer ASKS in the next one", () -> {
            SipMeter x = Check.with(PART, 0);
            asked(x, ask(0, 1, 5), ask(5, 1, 0));
            Check.due("together", x.together(0), 19);
            Check.due("forget", x.forget(), 2);
            asked(x, ask(0, 1, 5));
            Check.due("together", x.together(0), 19);
            Check.due("later(0)", x.later(0), 0);
            Check.due("later(1)", x.later(1), -1);
        });
        Check.edge("promise 27: six ASKS, the last", () -> {
            SipMeter x = Check.with(PART, 0);
            asked(x, ask(5, 1, 0), ask(5, 1, 0), ask(5, 1, 0), ask(5, 1, 0), ask(5, 1, 0), ask(1, 1, 5));
            Check.due("together", x.together(0), 19);
            Check.due("later(5)", x.later(5), 4);
            Check.due("later(6)", x.later(6), -1);
        });
    }

    // ---- promise 28

    private static void held(String orders, int due) {
        SipMeter x = new SipMeter();
        Check.due("text() of " + orders, Check.text(x, PARTS + orders) >= 0, true);
        Check.due("never() of " + orders, x.never(), due);
    }

    private static void never() {
        Check.edge("promise 28: no ORDERS", () -> held("", 0));
        Check.edge("promise 28: a new object", () -> Check.due("never", new SipMeter().never(), 0));
        Check.edge("promise 28: a hold alone", () -> held("hold a;", 1));
        Check.edge("promise 28: of another PART", () -> held("hold b;free a;", 2));
        Check.edge("promise 28: a free behind it", () -> held("hold a;hold a;free a;", 0));
        Check.edge("promise 28: a hold behind the free", () -> held("hold a;free a;hold a;", 1));
        Check.edge("promise 28: a free alone", () -> held("free a;use a 3;", 0));
        Check.edge("promise 28: a use does not hold", () -> held("use a 3;", 0));
        Check.edge("promise 28: six PARTS", () -> {
            StringBuilder text = new StringBuilder();
            for (char c = 'a'; c < 'g'; c++) {
                text.append("part ").append(c).append(" sleep 0 wake 0 0 on 0 work 0 tail 0;");
            }
            SipMeter x = Check.with(text + "hold a;hold b;hold c;hold d;hold e;hold f;", 6);
            Check.due("never", x.never(), 63);
            x = Check.with(text + "hold f;", 1);
            Check.due("never", x.never(), 32);
        });
        Check.edge("promise 28: it needs no RUN, and is none", () -> {
            SipMeter x = Check.with(PARTS + "hold a;", 1);
            Check.due("never", x.never(), 1);
            Check.due("no RUN", x.ran(0), -1);
        });
        Check.edge("promise 28: 60 LINES", () -> {
            SipMeter x = Check.with(PARTS + "hold a;" + "wait 0;".repeat(58) + "hold b;", 60);
            Check.due("never", x.never(), 3);
        });
    }

    private static void neverOnSomeWay() {
        Check.edge("III: each TEST may come out either way, what it is whatever", () -> {
            held("if not all { hold a; }", 1);
            held("if all {} else { hold a; }", 1);
            held("hold a;if all { free a; }", 1);
            held("hold a;if not all {} else { free a; }", 1);
        });
        Check.edge("III: freed on either way", () -> held("hold a;if all { free a; } else { free a; }", 0));
        Check.edge("III: held on either way", () -> held("if all { hold a; } else { hold b; }", 3));
        Check.edge("III: a while may go round not at all", () -> held("hold a;while all { free a; }", 1));
        Check.edge("III: a while may go round once", () -> held("while not all { hold a; }", 1));
        Check.edge("III: a while may go round twice", () -> held("while all { free b; if held a { hold b; } hold a; }", 3));
        Check.edge("III: held but within a while", () -> held("while all { hold a; free a; }", 0));
        Check.edge("III: freed behind a while", () -> held("while all { hold a; hold b; } free a;", 2));
        Check.edge("III: a while that can't end by its TEST may end here", () -> held("hold a;while all {} wait 0;", 1));
        Check.edge("III: an if at a while's end", () -> held("while all { hold a; if all { free a; } }", 1));
        Check.edge("III: an else at a while's end", () -> held("while all { if all { hold a; } else { hold b; } free a; }", 2));
        Check.edge("III: PARTS held on unlike ways are all told", () -> held("if all { hold a;free b; } else { free a;hold b; }", 3));
        Check.edge("III: eight within one another", () -> {
            held("while all {".repeat(8) + "hold a;" + "}".repeat(8), 1);
            held("hold a;" + "if all {".repeat(8) + "free a;" + "}".repeat(8), 1);
            held("hold a;" + "if all { free a; } else {".repeat(8) + "free a;" + "}".repeat(8), 0);
        });
    }

    // ---- promise 29

    // 10 TICKS of heart 2, a sleeping 3 each: 50 a RUN
    private static SipMeter ran() {
        SipMeter x = Check.with("heart 2;part a sleep 3 wake 0 0 on 0 work 0 tail 0;wait 9;", 1);
        Check.due("run", x.run(-1), 0);
        return x;
    }

    private static void lasts() {
        Check.edge("promise 29: just a day", () -> Check.due("lasts", ran().lasts(50, 1, 0), 1));
        Check.edge("promise 29: not a whole day", () -> Check.due("lasts", ran().lasts(49, 1, 0), 0));
        Check.edge("promise 29: a battery of 0", () -> Check.due("lasts", ran().lasts(0, 1, 0), 0));
        Check.edge("promise 29: a battery of 10 to the 9", () -> Check.due("lasts", ran().lasts(1000000000, 1, 0), 20000000));
        Check.edge("promise 29: 1000 runs", () -> Check.due("lasts", ran().lasts(1000000000, 1000, 0), 20000));
        Check.edge("promise 29: no runs, but sleep", () -> Check.due("lasts", ran().lasts(10, 0, 1), 3));
        Check.edge("promise 29: 10 to the 5 TICKS of sleep", () -> Check.due("lasts", ran().lasts(1000000000, 0, 100000), 3333));
        Check.edge("promise 29: both", () -> Check.due("lasts", ran().lasts(112, 1, 2), 2));
        Check.edge("promise 29: a day sips nothing", () -> Check.due("lasts", ran().lasts(1000, 0, 0), -1));
        Check.edge("promise 29: PARTS that sip nothing asleep", () -> {
            SipMeter x = Check.with(PARTS.replace("sleep 1", "sleep 0") + "wait 1;", 1);
            Check.due("run", x.run(-1), 0);
            Check.due("lasts", x.lasts(1000, 0, 100), -1);
        });
        Check.edge("promise 29: the heart does not beat in sleep", () -> {
            SipMeter x = Check.with("heart 999;wait 1;", 1);
            Check.due("run", x.run(-1), 0);
            Check.due("lasts", x.lasts(1000, 0, 100), -1);
        });
        Check.edge("promise 29: a day of more than 2 to the 32", () -> {
            SipMeter x = Check.with("heart 150;part a sleep 999 wake 0 0 on 0 work 0 tail 0;part b sleep 999 wake 0 0 on 0 work 0 tail 0;while all {}", 1);
            Check.due("run", x.run(-1), 1);
            // 4 296 000 000 a day: 1 032 704 above 2 to the 32
            Check.due("lasts", x.lasts(1000000000, 1000, 0), 0);
            Check.due("lasts", x.lasts(1000000000, 500, 0), 0);
            Check.due("lasts", x.lasts(1000000000, 200, 0), 1);
        });
        Check.edge("promise 29: the most of all", () -> {
            StringBuilder text = new StringBuilder("heart 999;");
            for (char c = 'a'; c < 'g'; c++) {
                text.append("part ").append(c).append(" sleep 999 wake 0 0 on 0 work 0 tail 0;");
            }
            SipMeter x = Check.with(text + "while all {}", 1);
            Check.due("run", x.run(-1), 1);
            Check.due("lasts", x.lasts(1000000000, 1000, 100000), 0);
            Check.due("lasts", x.lasts(1000000000, 0, 100000), 1);
        });
        Check.edge("promise 29: the latest RUN counts, cut off or not", () -> {
            SipMeter x = ran();
            Check.due("run", x.run(12), 2);
            Check.due("lasts", x.lasts(100, 1, 0), 10);
            Check.due("run", x.run(0), 2);
            Check.due("it sipped nothing", x.lasts(100, 1, 0), -1);
            Check.due("run", x.run(-2), -2);
            Check.due("still", x.lasts(100, 1000, 0), -1);
        });
    }

    private static void lastsRefused() {
        int[][] wrong = {{-1, 1, 1}, {1000000001, 1, 1}, {1, -1, 1}, {1, 1001, 1}, {1, 1, -1}, {1, 1, 100001},
            {LEAST, 1, 1}, {GREATEST, 1, 1}, {1, LEAST, 1}, {1, GREATEST, 1}, {1, 1, LEAST}, {1, 1, GREATEST}};
        for (int[] row : wrong) {
            Check.edge("promise 29: lasts(" + row[0] + ", " + row[1] + ", " + row[2] + ")",
                () -> Check.due("lasts", ran().lasts(row[0], row[1], row[2]), -1));
        }
        Check.edge("promise 29: nothing was run", () -> {
            SipMeter x = Check.with("wait 1;", 1);
            Check.due("lasts", x.lasts(10, 1, 0), -1);
            Check.due("over is no RUN", x.over(true) > 0 && x.lasts(10, 1, 0) == -1, true);
        });
        Check.edge("promise 29: a new text", () -> {
            SipMeter x = ran();
            Check.due("text", Check.text(x, "wait 1;"), 1);
            Check.due("lasts", x.lasts(10, 1, 0), -1);
        });
    }
}
