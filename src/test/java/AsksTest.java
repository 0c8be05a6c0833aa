/** Promises 24 to 29: ASKS put TOGETHER, PARTS that are NEVER LET GO, how long a battery lasts. */
public final class AsksTest {
    private static final String PART = "part a sleep 0 wake 2 5 on 3 work 9 tail 1;";

    public static void main(String[] args) {
        asks();
        together();
        likeOnes();
        dearest();
        never();
        lasts();
        Check.finish("AsksTest");
    }

    private static void asks() {
        SipMeter x = new SipMeter();
        int[][] wrong = {{-1, 1, 0}, {201, 1, 0}, {0, 0, 0}, {0, 21, 0}, {0, 1, -1}, {0, 1, 6}, {0, 2147483647, 0}, {-2147483648, 1, 1}};
        for (int[] ask : wrong) {
            Check.due("ask", x.ask(ask[0], ask[1], ask[2]), -1);
        }
        Check.due("none", x.has(5), 0);
        Check.due("least", x.ask(0, 1, 0), 1);
        Check.due("greatest", x.ask(200, 20, 5), 2);
        for (int i = 3; i <= 6; i++) {
            Check.due("ask " + i, x.ask(i, i, i - 2), i);
        }
        Check.due("a 7th", x.ask(0, 1, 0), -1);
        Check.due("six", x.has(5), 6);
        Check.due("no PART", x.together(0), -1);
        Check.due("forget", x.forget(), 6);
        Check.due("forget again", x.forget(), 0);
        Check.due("none left", x.has(5), 0);
        Check.due("one again", x.ask(1, 1, 1), 1);
    }

    private static void together() {
        SipMeter x = Check.with(PART, 0);
        Check.due("no ASK", x.together(0), -1);
        Check.due("later ahead of any", x.later(0), -1);
        Check.due("ask", x.ask(7, 2, 5), 1);
        Check.due("one: a WAKE, its TICKS, TAIL", x.together(0), 19);
        Check.due("at once", x.later(0), 0);
        Check.due("ask", x.ask(11, 2, 0), 2);
        Check.due("both at once", x.together(0), 19);
        Check.due("four later", x.later(0), 4);
        Check.due("at once", x.later(1), 0);
        Check.due("no third", x.later(2), -1);
        Check.due("none ahead", x.later(-1), -1);
        Check.due("no PART 1", x.together(1), -1);
        Check.due("no PART -1", x.together(-1), -1);
        Check.due("the latest stays", x.later(0), 4);
        Check.due("forget", x.forget(), 2);
        Check.due("no ASK", x.together(0), -1);
        Check.due("the latest that was not NONE stays", x.later(0), 4);
        Check.due("ask", x.ask(0, 5, 0), 1);
        Check.due("ask", x.ask(6, 1, 0), 2);
        Check.due("side by side is one row", x.together(0), 10 + 3 * 8);
        Check.due("ask", x.ask(9, 1, 0), 3);
        Check.due("a gap is a second row", x.together(0), 20 + 3 * 10);
        Check.due("another text", Check.text(x, PART + "part b sleep 0 wake 0 0 on 1 work 0 tail 0;"), 0);
        Check.due("ASKS stay", x.together(1), 7);
        Check.due("no wake for b", x.later(2), 0);
    }

    private static void likeOnes() {
        SipMeter x = Check.with("part a sleep 0 wake 1 9 on 0 work 0 tail 0;", 0);
        Check.due("ask", x.ask(0, 1, 1), 1);
        Check.due("ask", x.ask(0, 1, 1), 2);
        Check.due("ask", x.ask(2, 1, 0), 3);
        Check.due("one row", x.together(0), 9);
        Check.due("the first ask's lesser first", x.later(0), 0);
        Check.due("the least sum", x.later(1), 1);
        Check.due("the last", x.later(2), 0);
        x = Check.with("part a sleep 0 wake 0 0 on 0 work 0 tail 0;", 0);
        Check.due("ask", x.ask(100, 20, 5), 1);
        Check.due("nothing costs", x.together(0), 0);
        Check.due("the least sum", x.later(0), 0);
    }

    private static void dearest() {
        SipMeter x = Check.with("part a sleep 0 wake 20 999 on 999 work 0 tail 50;", 0);
        for (int i = 0; i < 6; i++) {
            Check.due("ask", x.ask(i * 40, 1, 5), i < 6 && i * 40 <= 200 ? i + 1 : -1);
        }
        // 0, 40 .. 200: each reaches the next, so that as late the first, so early the last is least
        Check.due("one row", x.together(0), 20 * 999 + 999 * (200 - 5 + 51));
        Check.due("the first comes latest", x.later(0), 5);
        for (int i = 1; i < 6; i++) {
            Check.due("the others at once", x.later(i), 0);
        }
    }

    private static void held(String text, int lines, int due) {
        SipMeter x = Check.with(PART + "part b sleep 0 wake 0 0 on 1 work 1 tail 0;var v;" + text, lines);
        Check.due("never of " + text, x.never(), due);
        Check.due("never again", x.never(), due);
    }

    private static void never() {
        held("", 0, 0);
        held("hold a;", 1, 1);
        held("hold b;", 1, 2);
        held("hold a;hold b;free a;", 3, 2);
        held("hold a;free a;", 2, 0);
        held("free a;", 1, 0);
        held("hold a;if v = 0 { free a; }", 3, 1);
        held("hold a;if v = 0 { free a; } else { free a; }", 4, 0);
        held("if not all { hold b; }", 2, 2);
        held("if all { } else { hold b; }", 2, 2);
        held("while all { hold a; }", 2, 1);
        held("while all { hold a; free a; }", 3, 0);
        held("while all { free a; hold a; } free a;", 4, 0);
        held("hold a;while all { free a; }", 3, 1);
        held("while all { if all { free a; } else { hold b; } hold a; }", 5, 3);
        held("while all { while all { hold b; } free a; } if all { hold a; free b; }", 7, 3);
        held("hold a; hold b; while all { wait 1; } free a; free b;", 6, 0);
        held("while all { if held b { free b; } hold b; free b; hold a; }", 6, 1);
    }

    private static void lasts() {
        SipMeter x = Check.with("part a sleep 3 wake 0 0 on 0 work 0 tail 0;part b sleep 4 wake 0 0 on 0 work 0 tail 0;heart 2;wait 9;", 1);
        Check.due("nothing was run", x.lasts(1000, 1, 0), -1);
        Check.due("run", x.run(-1), 0);
        Check.due("sips", x.ran(1), 90);
        Check.due("runs", x.lasts(1000, 1, 0), 11);
        Check.due("sleeps", x.lasts(1000, 0, 10), 14);
        Check.due("both", x.lasts(1000, 2, 10), 4);
        Check.due("to the unit", x.lasts(249, 2, 10), 0);
        Check.due("to the unit", x.lasts(250, 2, 10), 1);
        Check.due("an empty one", x.lasts(0, 1, 1), 0);
        Check.due("a day sips nothing", x.lasts(1000, 0, 0), -1);
        Check.due("the greatest", x.lasts(1000000000, 1000, 100000), 1000000000 / (90000 + 700000));
        Check.due("battery above", x.lasts(1000000001, 1, 1), -1);
        Check.due("battery below", x.lasts(-1, 1, 1), -1);
        Check.due("runs above", x.lasts(1, 1001, 1), -1);
        Check.due("runs below", x.lasts(1, -1, 1), -1);
        Check.due("ticks above", x.lasts(1, 1, 100001), -1);
        Check.due("ticks below", x.lasts(1, 1, -1), -1);
        Check.due("an EMPTY run", x.run(20), 2);
        Check.due("counts with what it sipped", x.lasts(1000, 1, 0), 55);
        Check.due("a RUN of nothing", x.run(0), 2);
        Check.due("sips nothing", x.lasts(1000, 5, 0), -1);
        Check.due("but sleeps", x.lasts(1000, 5, 1), 142);
        x = Check.with("heart 999;while all {}", 1);
        Check.due("run", x.run(-1), 1);
        Check.due("no overflow", x.lasts(1000000000, 1000, 100000), 0);
        Check.due("no overflow", x.lasts(1000000000, 500, 0), 1);
    }
}
