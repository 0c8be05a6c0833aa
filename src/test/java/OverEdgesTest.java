/** The boundary cases of OVER ALL INPUTS, MEASURED, FIT and of promises 19 to 23, each by a test of its own. */
public final class OverEdgesTest {
    private static final int LEAST = -2147483648;
    private static final int GREATEST = 2147483647;

    public static void main(String[] args) {
        ways();
        likeOnes();
        overAndRuns();
        wheres();
        measures();
        fits();
        grid();
        fitRefused();
        fitteds();
        Check.finish("OverEdgesTest");
    }

    private static void over(String text, int greatest, int least) {
        SipMeter x = new SipMeter();
        Check.due("text() of " + text, Check.text(x, text) >= 0, true);
        Check.due("over(true) of " + text, x.over(true), greatest);
        Check.due("over(false) of " + text, x.over(false), least);
        Check.due("over(true) again of " + text, x.over(true), greatest);
    }

    private static void where(SipMeter x, int... due) {
        for (int i = 0; i < due.length; i++) {
            Check.due("where(" + i + ")", x.where(i), due[i]);
        }
    }

    // ---- promise 19

    private static void ways() {
        Check.edge("III: one way, without INPUTS", () -> over("wait 4;", 5, 5));
        Check.edge("III: one way, of INPUTS that can be but in one", () -> over("input n 7 7;input m 9 9;wait n+m;", 17, 17));
        Check.edge("III: 100 ways of one INPUT", () -> over("input n 0 99;wait n;", 100, 1));
        Check.edge("III: 256 ways of two INPUTS", () -> over("input n 0 3;input m 36 99;wait n*10+m/9;", 42, 5));
        Check.edge("III: 256 ways of three INPUTS", () -> over("input n 0 3;input m 0 7;input o 0 7;wait n*9+m+o;", 42, 1));
        Check.edge("III: 258 ways", () -> over("input n 0 2;input m 0 85;wait n;", -1, -1));
        Check.edge("III: 260 ways of three INPUTS", () -> over("input n 0 1;input m 0 9;input o 0 12;wait n;", -1, -1));
        Check.edge("III: 10 to the 6 ways", () -> over("input n 0 99;input m 0 99;input o 0 99;wait n;", -1, -1));
        Check.edge("III: a refused one does nothing", () -> {
            SipMeter x = Check.with("input n 0 2;input m 0 85;var v;set v = n*100+m;", 1);
            Check.due("put", x.put(0, 1) && x.put(1, 7), true);
            Check.due("over", x.over(true), -1);
            Check.due("no RUN", x.ran(0), -1);
            Check.due("run", x.run(-1), 0);
            Check.due("as put", x.value(0), 107);
        });
        Check.edge("III: a new object", () -> {
            SipMeter x = new SipMeter();
            Check.due("over", x.over(true), 0);
            Check.due("over", x.over(false), 0);
        });
        Check.edge("III: LONG RUNS count, too", () -> over("heart 3;input n 0 1;while n = 0 {}", 6000, 3));
    }

    private static void likeOnes() {
        Check.edge("III: of like greatest ones the first INPUT's lesser", () -> {
            SipMeter x = Check.with("input n 1 5;if n > 2 { wait 9; }", 2);
            Check.due("over", x.over(true), 11);
            where(x, 3);
            Check.due("over", x.over(false), 1);
            where(x, 1);
        });
        Check.edge("III: of like ones the second's lesser, if the first's are like", () -> {
            SipMeter x = Check.with("input n 1 5;input m 3 9;if n = 4 and m > 5 { wait 9; }", 2);
            Check.due("over", x.over(true), 11);
            where(x, 4, 6);
            Check.due("over", x.over(false), 1);
            where(x, 1, 3);
        });
        Check.edge("III: the first INPUT counts ahead of the second", () -> {
            SipMeter x = Check.with("input n 0 1;input m 0 1;if n+m = 1 { wait 9; }", 2);
            Check.due("over", x.over(true), 11);
            where(x, 0, 1);
        });
        Check.edge("III: and the second ahead of the third", () -> {
            SipMeter x = Check.with("input n 3 3;input m 0 1;input o 0 1;if m+o = 1 { wait 9; }", 2);
            Check.due("over", x.over(true), 11);
            where(x, 3, 0, 1);
        });
        Check.edge("III: all are like", () -> {
            SipMeter x = Check.with("input n 4 9;input m 2 8;input o 1 3;wait 1;", 1);
            Check.due("over", x.over(true), 2);
            where(x, 4, 2, 1);
            Check.due("over", x.over(false), 2);
            where(x, 4, 2, 1);
        });
        Check.edge("III: the last way of all", () -> {
            SipMeter x = Check.with("input n 4 9;input m 2 8;input o 1 3;if n+m+o = 20 { wait 1; } else { wait 2; }", 3);
            Check.due("over", x.over(false), 3);
            where(x, 9, 8, 3);
        });
    }

    private static void overAndRuns() {
        Check.edge("promise 19: it is without a PURSE", () -> {
            SipMeter x = Check.with("input n 0 9;wait n;", 1);
            Check.due("run", x.run(3), 0);
            Check.due("over", x.over(true), 10);
        });
        Check.edge("promise 19: what is put stays, and does not count", () -> {
            SipMeter x = Check.with("input n 0 9;var v;set v = n;wait n;", 2);
            Check.due("put", x.put(0, 4), true);
            Check.due("over", x.over(true), 11);
            Check.due("run", x.run(-1), 0);
            Check.due("value", x.value(0), 4);
        });
        Check.edge("promise 19: the latest RUN stays", () -> {
            SipMeter x = Check.with("part a sleep 1 wake 1 1 on 1 work 1 tail 2;input n 0 9;use a n;", 1);
            Check.due("put", x.put(0, 4), true);
            Check.due("run", x.run(8), 2);
            int[] before = {x.ran(0), x.ran(1), x.ran(5), x.spent(0, 3), x.pays(0, 0), x.stretches(0), (int) x.byTurns(0, 0, 0, true), x.wasted(0)};
            Check.due("over", x.over(true) > 0, true);
            int[] behind = {x.ran(0), x.ran(1), x.ran(5), x.spent(0, 3), x.pays(0, 0), x.stretches(0), (int) x.byTurns(0, 0, 0, true), x.wasted(0)};
            for (int i = 0; i < before.length; i++) {
                Check.due("answer " + i, behind[i], before[i]);
            }
        });
        Check.edge("promise 19: TICKS behind the last LINE count", () -> over("part a sleep 0 wake 0 0 on 1 work 1 tail 50;input n 0 1;use a n;", 3 + 50, 1 + 50));
    }

    // ---- promise 20

    private static void wheres() {
        Check.edge("promise 20: ahead of any over()", () -> {
            SipMeter x = Check.with("input n 0 9;wait n;", 1);
            Check.due("where", x.where(0), -1);
            Check.due("run", x.run(-1), 0);
            Check.due("a RUN is none", x.where(0), -1);
        });
        Check.edge("promise 20: no such INPUT", () -> {
            SipMeter x = Check.with("input n 0 9;input m 0 2;wait n;", 1);
            Check.due("over", x.over(true), 10);
            for (int input : new int[] {LEAST, -1, 2, 3, GREATEST}) {
                Check.due("where(" + input + ")", x.where(input), -1);
            }
            where(x, 9, 0);
        });
        Check.edge("promise 20: no INPUT at all", () -> {
            SipMeter x = Check.with("wait 1;", 1);
            Check.due("over", x.over(true), 2);
            where(x, -1, -1, -1);
        });
        Check.edge("promise 20: by the latest over()", () -> {
            SipMeter x = Check.with("input n 0 9;wait n;", 1);
            Check.due("over", x.over(true), 10);
            where(x, 9);
            Check.due("over", x.over(false), 1);
            where(x, 0);
        });
        Check.edge("promise 20: none behind an over() that was NONE", () -> {
            SipMeter x = Check.with("input n 0 9;input m 0 99;wait n;", 1);
            Check.due("over", x.over(true), -1);
            where(x, -1, -1);
        });
    }

    // ---- promise 21

    private static void measures() {
        Check.edge("promise 21: sips of 0", () -> Check.due("measure", Check.with("wait 1;", 1).measure(0), 1));
        Check.edge("promise 21: sips of 10 to the 7", () -> Check.due("measure", Check.with("wait 1;", 1).measure(10000000), 1));
        Check.edge("promise 21: sips below 0, above 10 to the 7", () -> {
            SipMeter x = Check.with("wait 1;", 1);
            for (int sips : new int[] {LEAST, -1, 10000001, GREATEST}) {
                Check.due("measure(" + sips + ")", x.measure(sips), -1);
            }
            Check.due("none", x.has(4), 0);
        });
        Check.edge("promise 21: 12 rows, a 13th", () -> {
            SipMeter x = Check.with("part a sleep 1 wake 0 0 on 0 work 0 tail 0;wait 1;", 1);
            for (int i = 1; i <= 12; i++) {
                Check.due("measure", x.measure(4), i);
            }
            Check.due("fit", x.fit(0), 0);
            Check.due("a 13th", x.measure(9999), -1);
            Check.due("it did nothing", x.has(4), 12);
            Check.due("it did nothing", x.fit(0), 0);
        });
        Check.edge("promise 21: a 13th that can't be", () -> {
            SipMeter x = Check.with("wait 1;", 1);
            for (int i = 1; i <= 12; i++) {
                Check.due("measure", x.measure(i), i);
            }
            Check.due("measure", x.measure(-1), -1);
        });
        Check.edge("promise 21: with the INPUTS as put then, not later", () -> {
            // it sips n + 1 and as often SLEEP
            SipMeter x = Check.with("part a sleep 0 wake 0 0 on 0 work 0 tail 0;input n 0 9;wait n;", 1);
            Check.due("put", x.put(0, 4), true);
            Check.due("measure", x.measure(5 + 5 * 7), 1);
            Check.due("put", x.put(0, 9), true);
            Check.due("fit", x.fit(0), 0);
            Check.due("SLEEP", x.fitted(0), 7);
        });
        Check.edge("promise 21: a new object may measure", () -> Check.due("measure", new SipMeter().measure(1), 1));
        Check.edge("promise 21: without a RUN, and it is none", () -> {
            SipMeter x = Check.with("wait 1;", 1);
            Check.due("measure", x.measure(1), 1);
            Check.due("no RUN", x.ran(0), -1);
        });
    }

    // ---- promises 22 and 23

    private static void fitted(SipMeter x, int sum, int sleep, int on, int work, int like) {
        Check.due("fit", x.fit(0), sum);
        Check.due("SLEEP", x.fitted(0), sleep);
        Check.due("ON", x.fitted(1), on);
        Check.due("WORK", x.fitted(2), work);
        Check.due("like", x.fitted(3), like);
    }

    // 1 TICK asleep, 1 ON, 1 at work; the heart sips nothing
    private static final String ONE_EACH = "heart 0;part a sleep 0 wake 0 0 on 0 work 0 tail 1;use a 1;";

    private static void fits() {
        Check.edge("III: 0 of each", () -> {
            SipMeter x = Check.with(ONE_EACH, 1);
            Check.due("measure", x.measure(0), 1);
            fitted(x, 0, 0, 0, 0, 1);
        });
        Check.edge("III: 15 of each", () -> {
            SipMeter x = Check.with(ONE_EACH, 1);
            Check.due("measure", x.measure(45), 1);
            fitted(x, 0, 15, 15, 15, 1);
        });
        Check.edge("III: more than 15 of each can tell", () -> {
            SipMeter x = Check.with(ONE_EACH, 1);
            Check.due("measure", x.measure(46), 1);
            fitted(x, 1, 15, 15, 15, 1);
        });
        Check.edge("III: the first of like ones: SLEEP, then ON, then WORK, the lesser first", () -> {
            SipMeter x = Check.with(ONE_EACH, 1);
            Check.due("measure", x.measure(1), 1);
            fitted(x, 0, 0, 0, 1, 3);
            Check.due("text", Check.text(x, ONE_EACH), 1);
            Check.due("measure", x.measure(16), 1);
            // 16 as a sum of three 0 .. 15: 153 ways without bound, less 3 times (16, 0, 0)
            fitted(x, 0, 0, 1, 15, 150);
            Check.due("text", Check.text(x, ONE_EACH), 1);
            Check.due("measure", x.measure(44), 1);
            fitted(x, 0, 14, 15, 15, 3);
        });
        Check.edge("III: differences are without sign, and taken together", () -> {
            SipMeter x = Check.with(ONE_EACH, 1);
            Check.due("measure", x.measure(0), 1);
            Check.due("measure", x.measure(9), 2);
            // any sum 0 .. 9 lies 9 off both: 220 ways up to 9
            fitted(x, 9, 0, 0, 0, 220);
        });
        Check.edge("III: its own numbers do not count, those of others do", () -> {
            SipMeter x = Check.with("heart 2;part a sleep 9 wake 1 100 on 9 work 9 tail 1;part b sleep 7 wake 0 0 on 0 work 0 tail 0;use a 1;", 1);
            // TICKS: own, WAKE, work, TAIL; heart 3 times 2, b 4 times 7, the WAKE's 100
            Check.due("measure", x.measure(6 + 28 + 100), 1);
            fitted(x, 0, 0, 0, 0, 1);
            Check.due("its own are as they were", x.run(-1) == 0 && x.ran(1) == 134 + 27, true);
        });
        Check.edge("III: rows of other INPUTS", () -> {
            SipMeter x = Check.with("heart 0;part a sleep 0 wake 0 0 on 0 work 0 tail 0;input n 0 50;use a n;", 1);
            Check.due("measure", x.measure(3), 1);
            Check.due("put", x.put(0, 50), true);
            Check.due("measure", x.measure(3 + 50 * 11), 2);
            fitted(x, 0, 3, 0, 11, 16);
        });
        Check.edge("III: the greatest differences of 12 rows", () -> {
            SipMeter x = Check.with(ONE_EACH, 1);
            for (int i = 1; i <= 12; i++) {
                Check.due("measure", x.measure(10000000), i);
            }
            fitted(x, 12 * (10000000 - 45), 15, 15, 15, 1);
        });
        Check.edge("III: the greatest sips of 12 rows", () -> {
            SipMeter x = Check.with("heart 999;part a sleep 0 wake 0 0 on 0 work 0 tail 0;part b sleep 999 wake 0 0 on 0 work 0 tail 0;"
                + "part c sleep 999 wake 0 0 on 0 work 0 tail 0;while all {}", 1);
            for (int i = 1; i <= 12; i++) {
                Check.due("measure", x.measure(0), i);
            }
            fitted(x, 12 * 2000 * 3 * 999, 0, 0, 0, 256);
        });
    }

    private static void grid() {
        Check.edge("III: of a PART that was never used SLEEP alone counts", () -> {
            SipMeter x = Check.with("heart 0;part a sleep 0 wake 0 0 on 0 work 0 tail 0;wait 9;", 1);
            Check.due("measure", x.measure(155), 1);
            fitted(x, 5, 15, 0, 0, 256);
        });
        Check.edge("III: half way between two", () -> {
            SipMeter x = Check.with("heart 0;part a sleep 0 wake 0 0 on 0 work 0 tail 0;wait 9;", 1);
            Check.due("measure", x.measure(75), 1);
            fitted(x, 5, 7, 0, 0, 512);
        });
        Check.edge("III: no TICKS at all", () -> {
            SipMeter x = Check.with("part a sleep 0 wake 0 0 on 0 work 0 tail 0;", 0);
            Check.due("measure", x.measure(7), 1);
            fitted(x, 7, 0, 0, 0, 4096);
        });
    }

    private static void fitRefused() {
        Check.edge("promise 22: nothing is MEASURED", () -> Check.due("fit", Check.with(ONE_EACH, 1).fit(0), -1));
        Check.edge("promise 22: no such PART", () -> {
            SipMeter x = Check.with(ONE_EACH, 1);
            Check.due("measure", x.measure(1), 1);
            for (int part : new int[] {LEAST, -1, 1, 6, GREATEST}) {
                Check.due("fit(" + part + ")", x.fit(part), -1);
            }
        });
        Check.edge("promise 22: no PART at all", () -> {
            SipMeter x = new SipMeter();
            Check.due("measure", x.measure(1), 1);
            Check.due("fit", x.fit(0), -1);
        });
        Check.edge("promise 22: the last of six PARTS", () -> {
            StringBuilder text = new StringBuilder("heart 0;");
            for (char c = 'a'; c < 'g'; c++) {
                text.append("part ").append(c).append(" sleep 1 wake 0 0 on 0 work 0 tail 0;");
            }
            SipMeter x = Check.with(text + "use f 2;", 1);
            // the five others sip 3 each
            Check.due("measure", x.measure(15 + 4 + 2 * 6), 1);
            Check.due("fit(5)", x.fit(5), 0);
            Check.due("SLEEP", x.fitted(0), 0);
            Check.due("WORK", x.fitted(2), 8);
            Check.due("fit(6)", x.fit(6), -1);
        });
    }

    private static void fitteds() {
        Check.edge("promise 23: without one", () -> {
            SipMeter x = Check.with(ONE_EACH, 1);
            Check.due("measure", x.measure(1), 1);
            for (int what = 0; what < 4; what++) {
                Check.due("fitted", x.fitted(what), -1);
            }
        });
        Check.edge("promise 23: for others", () -> {
            SipMeter x = Check.with(ONE_EACH, 1);
            Check.due("measure", x.measure(1), 1);
            Check.due("fit", x.fit(0), 0);
            for (int what : new int[] {LEAST, -1, 4, GREATEST}) {
                Check.due("fitted(" + what + ")", x.fitted(what), -1);
            }
        });
        Check.edge("promise 23: a fit() that was NONE leaves it", () -> {
            SipMeter x = Check.with(ONE_EACH, 1);
            Check.due("measure", x.measure(45), 1);
            Check.due("fit", x.fit(0), 0);
            Check.due("fit", x.fit(1), -1);
            Check.due("ON", x.fitted(1), 15);
        });
        Check.edge("promise 23: the latest one alone", () -> {
            SipMeter x = Check.with(ONE_EACH, 1);
            Check.due("measure", x.measure(45), 1);
            Check.due("fit", x.fit(0), 0);
            Check.due("measure", x.measure(0), 2);
            Check.due("as it was, behind a measure", x.fitted(3), 1);
            fitted(x, 45, 0, 0, 0, 4096);
        });
    }
}
