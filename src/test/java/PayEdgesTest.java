/** The boundary cases of Term III's WHO PAYS, TURNS and WASTED, and of promises 13 and 16 to 18, each by a test of its own. */
public final class PayEdgesTest {
    private static final int LEAST = -2147483648;
    private static final int GREATEST = 2147483647;
    private static final int WHOLE = 0;
    private static final int LONG = 1;
    private static final int EMPTY = 2;
    private static final long NO_SHARE = -1000000000000000L;
    // WAKE of 2 TICKS, TAIL of 3
    private static final String PART = "part a sleep 1 wake 2 10 on 3 work 20 tail 3;";
    // of no WAKE and no TAIL
    private static final String BARE = "part a sleep 1 wake 0 0 on 3 work 20 tail 0;";

    public static void main(String[] args) {
        nobody();
        byLast();
        byLastInRounds();
        inParts();
        payRefused();
        lines();
        turnsOfFew();
        turnsOfHolds();
        turnsOfParts();
        turnsOfMany();
        turnsRefused();
        wasted();
        wastedOfNone();
        Check.finish("PayEdgesTest");
    }

    private static SipMeter ran(String text) {
        return ran(text, -1, WHOLE);
    }

    private static SipMeter ran(String text, int purse, int how) {
        SipMeter x = new SipMeter();
        Check.due("text() of " + text, Check.text(x, text) >= 0, true);
        Check.due("run of " + text, x.run(purse), how);
        return x;
    }

    private static void pays(SipMeter x, int rule, int... due) {
        for (int line = 0; line < due.length; line++) {
            Check.due("pays(" + line + ", " + rule + ")", x.pays(line, rule), due[line]);
        }
    }

    private static void turn(SipMeter x, int k, int line, long above, long below) {
        Check.due("byTurns(0, " + k + ", " + line + ", true)", x.byTurns(0, k, line, true), above);
        Check.due("byTurns(0, " + k + ", " + line + ", false)", x.byTurns(0, k, line, false), below);
    }

    private static void none(SipMeter x, int part, int k, int line) {
        Check.due("byTurns above", x.byTurns(part, k, line, true), NO_SHARE);
        Check.due("byTurns below", x.byTurns(part, k, line, false), NO_SHARE);
    }

    // ---- promise 13

    private static void nobody() {
        Check.edge("III: what PARTS sip asleep nobody pays", () -> {
            SipMeter x = ran("part a sleep 5 wake 0 0 on 0 work 0 tail 0;part b sleep 7 wake 0 0 on 0 work 0 tail 0;wait 9;");
            Check.due("RULE 0", x.pays(-1, 0), 120);
            Check.due("RULE 1", x.pays(-1, 1), 120);
            pays(x, 0, 10);
        });
        Check.edge("III: nor what they sip asleep behind the last LINE", () -> {
            SipMeter x = ran("part a sleep 5 wake 0 0 on 0 work 0 tail 0;part b sleep 0 wake 0 0 on 1 work 0 tail 4;use b 0;");
            Check.due("nobody", x.pays(-1, 0), 25);
        });
        Check.edge("III: nobody pays nothing without PARTS", () -> Check.due("nobody", ran("wait 3;").pays(-1, 0), 0));
        Check.edge("III: a PART that never sleeps but ahead", () -> Check.due("nobody", ran(PART + "hold a;wait 9;").pays(-1, 1), 1));
    }

    private static void byLast() {
        Check.edge("III: the heart, waking and working the LINE pays that is done", () -> {
            SipMeter x = ran("heart 2;part a sleep 1 wake 2 10 on 0 work 20 tail 3;use a 4;");
            pays(x, 0, 2 * 7 + 20 + 80);
            pays(x, 1, 2 * 7 + 20 + 80);
        });
        Check.edge("III: the heart sips nothing behind the last LINE", () -> pays(ran("heart 9;" + PART + "use a 0;"), 0, 9 * 3 + 20 + 9));
        Check.edge("III: ON in the own TICK of a use is the one's ahead of it", () -> {
            SipMeter x = ran(PART + "use a 1;use a 1;");
            pays(x, 0, 4 + 20 + 20 + 3, 2 + 20 + 9);
        });
        Check.edge("III: ON in the own TICK of a free is the hold's", () -> pays(ran(PART + "hold a;free a;"), 0, 3 + 20 + 3, 1 + 9));
        Check.edge("III: a hold of what is held does not count", () -> pays(ran(BARE + "hold a;hold a;wait 1;"), 0, 1 + 9, 1, 2));
        Check.edge("III: a free of what isn't held does not count", () -> pays(ran(PART + "use a 0;free a;wait 0;"), 0, 3 + 20 + 9, 1, 1));
        Check.edge("III: a use that is cut off at once does not count", () -> {
            SipMeter x = ran(PART + "hold a;use a 1;", 28, EMPTY);
            pays(x, 0, 3 + 20 + 3, 1);
        });
        Check.edge("III: a use of no TICKS of what is held counts", () -> pays(ran(BARE + "hold a;use a 0;wait 0;"), 0, 1 + 3, 1 + 3, 1));
    }

    private static void byLastInRounds() {
        Check.edge("III: a LINE that is the last one again and again pays for all", () -> {
            SipMeter x = ran(PART + "var v;while v < 3 { use a 1; wait 9; set v = v+1; }");
            // a round: its own TICK, WAKE, work, TAIL
            Check.due("RULE 0", x.pays(1, 0), 3 * (4 + 20 + 20 + 9));
            Check.due("RULE 1", x.pays(1, 1), 3 * (4 + 20 + 20 + 9));
        });
        Check.edge("III: of more than one PART", () -> {
            SipMeter x = ran(PART + "part b sleep 0 wake 0 0 on 5 work 7 tail 1;var v;while v < 2 { use a 1; use b 1; wait 9; set v = v+1; }");
            // a round: use b's own and work are two of a's TAIL TICKS
            Check.due("a's", x.pays(1, 0), 2 * (4 + 20 + 20 + 9));
            Check.due("b's", x.pays(2, 0), 2 * (2 + 7 + 5));
        });
        Check.edge("III: nobody, of six PARTS", () -> {
            StringBuilder parts = new StringBuilder();
            for (int i = 0; i < 6; i++) {
                parts.append("part ").append((char) ('a' + i)).append(" sleep ").append(1 << i).append(" wake 0 0 on 0 work 0 tail 0;");
            }
            SipMeter x = ran(parts + "use f 3;");
            Check.due("nobody", x.pays(-1, 0), 31 * 4 + 32);
            Check.due("nobody", x.pays(-1, 1), 31 * 4 + 32);
        });
    }

    private static void inParts() {
        Check.edge("III: in like parts, nothing left over", () -> {
            // ON in the free's own TICK and in TAIL: 1 + 3 TICKS, 12 through 2
            SipMeter x = ran(PART + "hold a;free a;");
            pays(x, 1, 3 + 20 + 6, 1 + 6);
        });
        Check.edge("III: in like parts, 1 left over is the first one's", () -> {
            // 1 TICK of 3 through 2
            pays(ran(BARE + "hold a;free a;"), 1, 1 + 2, 1 + 1);
        });
        Check.edge("III: in like parts, 2 left over of 3", () -> {
            // hold, use, free: ON in the own TICKS of use and free, 2 times 4 through 3
            pays(ran("part a sleep 0 wake 0 0 on 4 work 0 tail 0;hold a;use a 1;free a;"), 1, 1 + 3, 2 + 3, 1 + 2);
        });
        Check.edge("III: less than one for each", () -> {
            // ON 1 in the own TICKS of use and free: 2 through 3
            pays(ran("part a sleep 0 wake 0 0 on 1 work 0 tail 0;hold a;use a 1;free a;"), 1, 1 + 1, 2 + 1, 1);
        });
        Check.edge("III: the first ones by number, not by when they came", () -> {
            // the free (LINE 2) comes in the second round, the hold (LINE 4) in the first
            String text = "part a sleep 0 wake 0 0 on 1 work 0 tail 0;var v;while v < 2 { if v = 1 { free a; } set v = v+1; if v = 1 { hold a; } }";
            SipMeter x = ran(text);
            Check.due("lines", x.lines(0, 0), 1 << 2 | 1 << 5);
            // ON: look, if, free: 3 TICKS
            Check.due("the free pays one more", x.pays(2, 1), 1 + 2);
            Check.due("the hold", x.pays(5, 1), 1 + 1);
        });
        Check.edge("III: each STRETCH for itself", () -> {
            // two STRETCHES of 1 TICK ON each, 3 through 2 each
            pays(ran(BARE + "hold a;free a;hold a;free a;"), 1, 3, 2, 3, 2);
        });
        Check.edge("III: each PART for itself", () -> {
            SipMeter x = ran(BARE + "part b sleep 0 wake 0 0 on 5 work 0 tail 0;hold a;hold b;free b;free a;");
            // a: 3 TICKS of 3 through 2, b: 1 TICK of 5 through 2
            pays(x, 1, 1 + 5, 1 + 3, 1 + 2, 1 + 4);
        });
        Check.edge("III: a STRETCH that is not ON costs none of it", () -> pays(ran(BARE + "use a 2;"), 1, 3 + 40));
        Check.edge("III: all is paid by either RULE", () -> {
            SipMeter x = ran("heart 3;" + PART + "part b sleep 2 wake 1 5 on 7 work 1 tail 2;hold a;use b 3;use a 2;free a;use b 0;wait 9;use a 1;hold b;");
            for (int rule = 0; rule < 2; rule++) {
                int sum = x.pays(-1, rule);
                for (int line = 0; line < 8; line++) {
                    sum += x.pays(line, rule);
                }
                Check.due("all by RULE " + rule, sum, x.ran(1));
            }
        });
    }

    private static void payRefused() {
        Check.edge("promise 13: no such LINE", () -> {
            SipMeter x = ran("wait 1;");
            for (int line : new int[] {LEAST, -2, 1, 59, 60, GREATEST}) {
                Check.due("pays(" + line + ", 0)", x.pays(line, 0), -1);
                Check.due("pays(" + line + ", 1)", x.pays(line, 1), -1);
            }
        });
        Check.edge("promise 13: no such RULE", () -> {
            SipMeter x = ran("wait 1;");
            for (int rule : new int[] {LEAST, -1, 2, GREATEST}) {
                Check.due("pays(0, " + rule + ")", x.pays(0, rule), -1);
                Check.due("pays(-1, " + rule + ")", x.pays(-1, rule), -1);
            }
        });
        Check.edge("promise 13: ahead of a RUN", () -> {
            SipMeter x = Check.with("wait 1;", 1);
            Check.due("pays(0, 0)", x.pays(0, 0), -1);
            Check.due("pays(-1, 0)", x.pays(-1, 0), -1);
        });
        Check.edge("promise 13: a LINE that was not done pays nothing", () -> pays(ran("if not all { wait 9; } wait 1;"), 0, 1, 0, 2));
        Check.edge("promise 13: a LINE that was cut off at its own TICK pays nothing", () -> pays(ran("wait 1;wait 1;", 2, EMPTY), 0, 2, 0));
        Check.edge("promise 13: LINE 59", () -> Check.due("pays", ran("wait 0;".repeat(59) + "wait 100;").pays(59, 1), 101));
        Check.edge("promise 13: a RUN pays anew", () -> {
            SipMeter x = ran("wait 9;");
            Check.due("run", x.run(-1), WHOLE);
            pays(x, 0, 10);
            pays(x, 1, 10);
        });
        Check.edge("promise 13: a RUN of fewer STRETCHES pays anew", () -> {
            SipMeter x = Check.with(BARE + "input n 0 1;if n = 0 { hold a; free a; hold a; free a; } hold a;free a;", 7);
            Check.due("run", x.run(-1), WHOLE);
            pays(x, 1, 1, 3, 2, 3, 2, 3, 2);
            Check.due("put", x.put(0, 1), true);
            Check.due("run", x.run(-1), WHOLE);
            pays(x, 1, 1, 0, 0, 0, 0, 3, 2);
            pays(x, 0, 1, 0, 0, 0, 0, 4, 1);
        });
    }

    // ---- promise 16

    private static void lines() {
        Check.edge("promise 16: no such STRETCH or PART", () -> {
            SipMeter x = ran(PART + "use a 1;");
            for (int n : new int[] {LEAST, -1, 1, 6, GREATEST}) {
                Check.due("lines(" + n + ", 0)", x.lines(n, 0), 0);
                Check.due("lines(0, " + n + ")", x.lines(0, n), 0);
            }
        });
        Check.edge("promise 16: ahead of a RUN", () -> Check.due("lines", Check.with(PART + "use a 1;", 1).lines(0, 0), 0));
        Check.edge("promise 16: LINES 31, 32 and 59 are bits of their own", () -> {
            SipMeter x = ran(PART + "wait 0;".repeat(31) + "use a 0;use a 0;" + "wait 0;".repeat(26) + "use a 0;");
            Check.due("the first", x.lines(0, 0), 1L << 31 | 1L << 32);
            Check.due("the second", x.lines(0, 1), 1L << 59);
        });
        Check.edge("promise 16: all 60 LINES", () -> {
            SipMeter x = ran("part a sleep 0 wake 0 0 on 1 work 1 tail 1;" + "use a 0;".repeat(60));
            Check.due("the first", x.lines(0, 0), (1L << 60) - 1L);
            Check.due("stretches", x.stretches(0), 1);
        });
        Check.edge("promise 16: neither a hold of what is held nor a free of what is not", () ->
            Check.due("lines", ran(PART + "free a;hold a;hold a;free a;free a;").lines(0, 0), 1 << 1 | 1 << 3));
    }

    // ---- promise 17

    private static void turnsOfFew() {
        Check.edge("III: one LINE pays all: ON for its TICKS and TAIL, a WAKE", () -> turn(ran(PART + "use a 4;"), 0, 0, (4 + 3) * 3 + 20, 1));
        Check.edge("III: a use of no TICKS has TAIL TICKS, too", () -> turn(ran(PART + "use a 0;"), 0, 0, 3 * 3 + 20, 1));
        Check.edge("III: a STRETCH of WAKE TICKS alone costs nothing", () -> turn(ran("part a sleep 1 wake 2 10 on 3 work 20 tail 0;use a 0;"), 0, 0, 0, 1));
        Check.edge("III: a STRETCH that costs nothing is 0 through 1", () -> turn(ran("part a sleep 1 wake 2 0 on 0 work 9 tail 3;use a 1;"), 0, 0, 0, 1));
        Check.edge("III: TAIL TICKS behind the STRETCH's end cost nothing", () -> {
            // cut off in TAIL: work 3, TAIL 4
            turn(ran(PART + "use a 1;wait 9;", 49, EMPTY), 0, 0, 2 * 3 + 20, 1);
        });
        Check.edge("III: rows side by side need one WAKE", () -> {
            // WAKE 1 2, use 3, own 4, use 5, TAIL 6 7 8: each alone 4 TICKS, both 6
            SipMeter x = ran(PART + "use a 1;use a 1;");
            turn(x, 0, 0, (12 + 20 + (18 + 20) - (12 + 20)) / 2, 1);
            turn(x, 0, 1, (12 + 20 + (18 + 20) - (12 + 20)) / 2, 1);
        });
        Check.edge("III: rows that just touch are side by side", () -> {
            // no TAIL left at the second use: WAKE 1, use 2, TAIL 3 (own), use 4 without WAKE TICKS, TAIL 5
            SipMeter x = ran("part a sleep 0 wake 0 7 on 3 work 9 tail 1;use a 1;use a 1;");
            turn(x, 0, 0, 2 * 3, 1);
            turn(x, 0, 1, 2 * 3, 1);
        });
        Check.edge("III: rows a TICK apart need two WAKES", () -> {
            // use 2, TAIL 3 (own), WAKE 4, use 5, TAIL 6
            SipMeter x = ran("part a sleep 0 wake 1 7 on 3 work 9 tail 1;use a 1;use a 1;");
            Check.due("one STRETCH", x.stretches(0), 1);
            turn(x, 0, 0, 2 * 3 + 7, 1);
            turn(x, 0, 1, 2 * 3 + 7, 1);
        });
        Check.edge("III: WAKE between uses of one LINE counts for each row", () -> {
            SipMeter x = ran("part a sleep 0 wake 1 7 on 3 work 9 tail 2;var v;while v < 2 { use a 1; set v = v+1; }");
            // use 3, TAIL 4 5, WAKE 7 behind set, look, own: asleep at its own TICK
            Check.due("two STRETCHES", x.stretches(0), 2);
            turn(x, 0, 1, 3 * 3 + 7, 1);
            turn(x, 1, 1, 3 * 3 + 7, 1);
        });
        Check.edge("III: it may be below 0", () -> {
            SipMeter x = ran("part a sleep 0 wake 1 1 on 0 work 0 tail 2;use a 0;use a 0;use a 3;use a 0;use a 0;");
            turn(x, 0, 2, -1, 3);
        });
        Check.edge("III: in lowest terms", () -> {
            // three LINES: WAKE 6 for each row, all side by side, ON 1
            SipMeter x = ran("part a sleep 0 wake 1 6 on 0 work 1 tail 5;use a 0;use a 0;use a 0;");
            turn(x, 0, 0, 2, 1);
            turn(x, 0, 2, 2, 1);
            x = ran("part a sleep 0 wake 1 1 on 0 work 1 tail 5;use a 0;use a 0;use a 0;");
            turn(x, 0, 0, 1, 3);
            turn(x, 0, 1, 1, 3);
        });
    }

    private static void turnsOfHolds() {
        Check.edge("III: held from behind its WAKE up to the free's own TICK, that one, too", () -> {
            // WAKE 1 2, wait 3 4 5, own TICK of the free 6, TAIL 7 8 9
            SipMeter x = ran(PART + "hold a;wait 2;free a;");
            turn(x, 0, 0, (4 + 3) * 3 + 20, 1);
            turn(x, 0, 2, 0, 1);
        });
        Check.edge("III: a hold freed at once is held for one TICK", () -> {
            SipMeter x = ran(BARE + "hold a;free a;");
            turn(x, 0, 0, 3, 1);
            turn(x, 0, 1, 0, 1);
        });
        Check.edge("III: held up to the RUN's end, TICKS behind the last LINE, too", () -> {
            SipMeter x = ran(BARE + "part b sleep 0 wake 0 0 on 1 work 1 tail 4;hold a;use b 0;");
            turn(x, 0, 0, 5 * 3, 1);
        });
        Check.edge("III: held up to where it is cut off", () -> turn(ran(BARE + "hold a;wait 9;", 2 + 4 * 4, EMPTY), 0, 0, 4 * 3, 1));
        Check.edge("III: a hold cut off amid its WAKE costs nothing", () -> turn(ran(PART + "hold a;", 13, EMPTY), 0, 0, 0, 1));
        Check.edge("III: a use while it is held is for both", () -> {
            // hold 1 .. 5: own 1, use 2 3, own of free 4; TAIL none: the use alone 2 TICKS
            SipMeter x = ran(BARE + "hold a;use a 2;free a;");
            turn(x, 0, 0, 4 * 3 - 3, 1);
            turn(x, 0, 1, 3, 1);
            turn(x, 0, 2, 0, 1);
        });
        Check.edge("III: a LINE that holds it twice in a STRETCH", () -> {
            // each round: look, hold, own of free; TAIL 3 takes set's and the look's TICK
            SipMeter x = ran(PART + "var v;while v < 2 { hold a; free a; set v = v+1; }");
            Check.due("stretches", x.stretches(0), 1);
            // WAKE 2 3, held 4, TAIL 5 6 7 (set, look, own of hold): asleep behind it: WAKE 8 9, held 10, TAIL 11 12 13
            turn(x, 0, 1, 2 * 20 + 8 * 3, 1);
            turn(x, 0, 2, 0, 1);
        });
    }

    private static void turnsOfParts() {
        String two = PART + "part b sleep 0 wake 1 100 on 7 work 1 tail 1;";
        Check.edge("III: by the PART's own numbers", () -> {
            SipMeter x = ran(two + "use b 2;");
            Check.due("b's", x.byTurns(1, 0, 0, true), 3 * 7 + 100);
            none(x, 0, 0, 0);
        });
        Check.edge("III: two PARTS at a time leave one another be", () -> {
            // a: WAKE 1 2, held 3 .. 9; b: own 3, WAKE 4, work 5 6, TAIL 7; own of wait 7, 8, own of free 9
            SipMeter x = ran(two + "hold a;use b 2;wait 1;free a;");
            turn(x, 0, 0, (7 + 3) * 3 + 20, 1);
            turn(x, 0, 3, 0, 1);
            none(x, 0, 0, 1);
            Check.due("b's", x.byTurns(1, 0, 1, true), 3 * 7 + 100);
            Check.due("b's", x.byTurns(1, 0, 1, false), 1);
            none(x, 1, 0, 0);
        });
        Check.edge("III: a LINE of both PARTS", () -> {
            SipMeter x = ran(two + "var v;while v < 2 { if v = 0 { use a 1; } else { use b 1; } set v = v+1; }");
            turn(x, 0, 2, 4 * 3 + 20, 1);
            Check.due("b's", x.byTurns(1, 0, 3, true), 2 * 7 + 100);
        });
        Check.edge("III: nothing of an earlier RUN", () -> {
            SipMeter x = Check.with(PART + "input n 0 1;if n = 0 { use a 9; } else { use a 1; } use a 1;", 4);
            Check.due("run", x.run(-1), WHOLE);
            // WAKE 2 3, work 4 .. 12, own 13, work 14, TAIL 15 16 17: alone 12 and 4 TICKS, both 14
            turn(x, 0, 1, ((36 + 20) + (42 + 20) - (12 + 20)) / 2, 1);
            Check.due("put", x.put(0, 1), true);
            Check.due("run", x.run(-1), WHOLE);
            // WAKE 2 3, work 4, own 5, work 6, TAIL 7 8 9: 4 TICKS each, both 6
            turn(x, 0, 2, (18 + 20) / 2, 1);
            turn(x, 0, 3, (18 + 20) / 2, 1);
            none(x, 0, 0, 1);
        });
    }

    private static void turnsOfMany() {
        String part = "part a sleep 0 wake 0 0 on 840 work 1 tail 1;";
        Check.edge("III: 8 LINES", () -> {
            SipMeter x = ran(part + "use a 0;".repeat(8));
            long sum = 0;
            for (int line = 0; line < 8; line++) {
                // each one's TAIL TICK is its own
                turn(x, 0, line, 840, 1);
                sum += x.byTurns(0, 0, line, true);
            }
            Check.due("all of them pay what all cost", sum, 8 * 840);
        });
        Check.edge("III: 8 LINES that share one WAKE", () -> {
            SipMeter x = ran("part a sleep 0 wake 1 1 on 0 work 1 tail 50;" + "use a 0;".repeat(8));
            for (int line = 0; line < 8; line++) {
                turn(x, 0, line, 1, 8);
            }
        });
        Check.edge("III: 9 LINES", () -> {
            SipMeter x = ran(part + "use a 0;".repeat(9));
            for (int line = 0; line < 9; line++) {
                none(x, 0, 0, line);
            }
        });
        Check.edge("III: 9 LINES of one STRETCH, 8 of another", () -> {
            SipMeter x = ran(part + "use a 0;".repeat(9) + "wait 1;" + "use a 0;".repeat(8));
            Check.due("stretches", x.stretches(0), 2);
            none(x, 0, 0, 0);
            turn(x, 1, 10, 840, 1);
            turn(x, 1, 17, 840, 1);
        });
        Check.edge("III: a free is one of the 9", () -> {
            SipMeter x = ran(part + "hold a;" + "use a 0;".repeat(7) + "free a;");
            none(x, 0, 0, 0);
            x = ran(part + "hold a;" + "use a 0;".repeat(6) + "free a;");
            turn(x, 0, 7, 0, 1);
        });
        Check.edge("III: LINES 52 .. 59", () -> {
            SipMeter x = ran(part + "wait 0;".repeat(52) + "use a 0;".repeat(8));
            for (int line = 52; line < 60; line++) {
                turn(x, 0, line, 840, 1);
            }
        });
        Check.edge("III: a STRETCH as long as can be", () -> {
            SipMeter x = ran("part a sleep 0 wake 20 999 on 999 work 999 tail 50;hold a;while all {}", -1, LONG);
            turn(x, 0, 0, 20 * 999 + (2000 - 21) * 999, 1);
        });
    }

    private static void turnsRefused() {
        Check.edge("promise 17: a LINE that is none of its LINES", () -> {
            SipMeter x = ran(PART + "use a 1;wait 0;free a;");
            none(x, 0, 0, 1);
            none(x, 0, 0, 2);
        });
        Check.edge("promise 17: no such LINE", () -> {
            SipMeter x = ran(PART + "use a 1;");
            for (int line : new int[] {LEAST, -64, -1, 1, 59, 60, 63, 64, 128, GREATEST}) {
                none(x, 0, 0, line);
            }
        });
        Check.edge("promise 17: no such STRETCH or PART", () -> {
            SipMeter x = ran(PART + "use a 1;");
            for (int n : new int[] {LEAST, -1, 1, 6, GREATEST}) {
                none(x, n, 0, 0);
                none(x, 0, n, 0);
            }
        });
        Check.edge("promise 17: ahead of a RUN", () -> none(Check.with(PART + "use a 1;", 1), 0, 0, 0));
        Check.edge("promise 17: a LINE of another STRETCH", () -> {
            SipMeter x = ran(BARE + "use a 1;use a 2;");
            turn(x, 0, 0, 3, 1);
            none(x, 0, 0, 1);
            turn(x, 1, 1, 6, 1);
            none(x, 1, 0, 0);
            turn(x, 0, 0, 3, 1);
        });
    }

    // ---- promise 18

    private static void wasted(SipMeter x, int... due) {
        for (int line = 0; line < due.length; line++) {
            Check.due("wasted(" + line + ")", x.wasted(line), due[line]);
        }
    }

    private static void wasted() {
        Check.edge("III: the last TAIL TICKS of a STRETCH", () -> wasted(ran(PART + "use a 5;"), 9));
        Check.edge("III: by the last one to use it alone", () -> wasted(ran(PART + "use a 5;use a 1;"), 0, 9));
        Check.edge("III: by a free", () -> wasted(ran(PART + "hold a;wait 3;free a;"), 0, 0, 9));
        Check.edge("III: not by a free of what isn't held", () -> wasted(ran(PART + "use a 1;free a;"), 9, 0));
        Check.edge("III: of each STRETCH", () -> wasted(ran(PART + "use a 1;wait 9;use a 1;wait 2;use a 0;"), 9, 0, 9, 0, 9));
        Check.edge("III: the same LINE in two STRETCHES", () -> {
            wasted(ran(PART + "var v;while v < 2 { use a 1; wait 9; set v = v+1; }"), 0, 18, 0, 0);
        });
        Check.edge("III: of each PART", () -> wasted(ran(PART + "part b sleep 0 wake 0 0 on 5 work 0 tail 2;use a 1;use b 1;"), 9, 10));
        Check.edge("III: TAIL 50", () -> wasted(ran("part a sleep 0 wake 0 0 on 999 work 0 tail 50;use a 0;"), 50 * 999));
        Check.edge("III: TAIL that ended just where the RUN did, cut off or not", () -> {
            // TAIL 4 5 6 are wait's own TICK and two more
            wasted(ran(PART + "use a 1;wait 2;"), 9, 0);
            wasted(ran(PART + "use a 1;wait 2;wait 0;", 45 + 12, EMPTY), 9, 0, 0);
        });
        Check.edge("III: TAIL that ended ahead of a cut", () -> wasted(ran(PART + "use a 1;wait 9;", 45 + 14, EMPTY), 9, 0));
    }

    private static void wastedOfNone() {
        Check.edge("III: TAIL 0", () -> wasted(ran(BARE + "use a 5;"), 0));
        Check.edge("III: ON 0", () -> wasted(ran("part a sleep 9 wake 0 0 on 0 work 9 tail 9;use a 5;"), 0));
        Check.edge("III: a STRETCH that is cut off in its TAIL", () -> wasted(ran(PART + "use a 1;wait 9;", 45 + 11, EMPTY), 0, 0));
        Check.edge("III: a STRETCH that is cut off at work", () -> wasted(ran(PART + "use a 9;", 66, EMPTY), 0));
        Check.edge("III: a STRETCH that is cut off in its WAKE", () -> wasted(ran(PART + "use a 9;", 13, EMPTY), 0));
        Check.edge("III: a STRETCH that is cut off in a hold's WAKE", () -> wasted(ran(PART + "hold a;", 13, EMPTY), 0));
        Check.edge("III: a STRETCH that is cut off in its second WAKE", () -> {
            // use 0 .. 3, TAIL 4 5 6: own of wait and one more, own of the hold; its WAKE 7 is cut at 8
            wasted(ran(PART + "use a 1;wait 1;hold a;", 45 + 12 + 11, EMPTY), 0, 0, 0);
            wasted(ran(PART + "use a 1;wait 1;use a 5;", 45 + 12 + 11, EMPTY), 0, 0, 0);
        });
        Check.edge("III: a hold that is cut off at once when TAIL is gone", () -> wasted(ran(PART + "use a 1;wait 1;hold a;", 45 + 12, EMPTY), 9, 0, 0));
        Check.edge("III: a STRETCH that is held at the end", () -> wasted(ran(PART + "use a 1;hold a;wait 9;"), 0, 0, 0));
        Check.edge("III: a STRETCH that goes on with a WAKE", () -> wasted(ran(PART + "use a 1;wait 1;use a 0;"), 0, 0, 9));
        Check.edge("III: a PART that was never used", () -> wasted(ran(PART + "wait 9;"), 0));
        Check.edge("III: a new RUN wastes anew", () -> {
            SipMeter x = ran(PART + "use a 1;");
            Check.due("run", x.run(-1), WHOLE);
            wasted(x, 9);
            Check.due("run", x.run(10), EMPTY);
            wasted(x, 0);
        });
        Check.edge("promise 18: no such LINE", () -> {
            SipMeter x = ran(PART + "use a 1;");
            for (int line : new int[] {LEAST, -1, 1, 59, 60, GREATEST}) {
                Check.due("wasted(" + line + ")", x.wasted(line), -1);
            }
        });
        Check.edge("promise 18: ahead of a RUN", () -> Check.due("wasted", Check.with(PART + "use a 1;", 1).wasted(0), -1));
    }
}
