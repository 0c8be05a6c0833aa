/** The boundary cases of Term II (A RUN) and of promises 9 to 12, 14 and 15, each by a test of its own. */
public final class RunEdgesTest {
    private static final int LEAST = -2147483648;
    private static final int GREATEST = 2147483647;
    private static final int WHOLE = 0;
    private static final int LONG = 1;
    private static final int EMPTY = 2;
    private static final String MILLION = "(999*999+999+999+1)";
    // WAKE of 2 TICKS, TAIL of 3
    private static final String PART = "part a sleep 1 wake 2 10 on 3 work 20 tail 3;";
    // of no WAKE and no TAIL
    private static final String BARE = "part a sleep 1 wake 0 0 on 3 work 20 tail 0;";

    public static void main(String[] args) {
        sums();
        products();
        ticks();
        uses();
        holds();
        frees();
        waits();
        touches();
        branches();
        tails();
        longRuns();
        emptyRuns();
        behindTheLastLine();
        cutOff();
        stretches();
        runs();
        rans();
        valuesAndSpent();
        Check.finish("RunEdgesTest");
    }

    private static SipMeter ran(String text) {
        SipMeter x = new SipMeter();
        Check.due("text() of " + text, Check.text(x, text) >= 0, true);
        Check.due("run of " + text, x.run(-1), WHOLE);
        return x;
    }

    private static void value(String sum, int due) {
        Check.due(sum, ran("input n 3 9;var v;var w;set v = " + sum + ";").value(0), due);
    }

    private static void row(String what, int[] got, int... due) {
        for (int i = 0; i < due.length; i++) {
            Check.due(what + " " + i, got[i], due[i]);
        }
    }

    private static int[] spent(SipMeter x, int part) {
        return new int[] {x.spent(part, 0), x.spent(part, 1), x.spent(part, 2), x.spent(part, 3)};
    }

    private static int[] stretch(SipMeter x, int part, int k) {
        return new int[] {x.stretch(part, k, 0), x.stretch(part, k, 1), x.stretch(part, k, 2)};
    }

    // ---- SUMS

    private static void sums() {
        Check.edge("I: a sum of 10 to the 6 is that", () -> value(MILLION, 1000000));
        Check.edge("I: a sum of one less is that", () -> value("999*999+999+999", 999999));
        Check.edge("I: a sum above 10 to the 6", () -> value(MILLION + "+1", 1000000));
        Check.edge("I: a sum is cut at once, not at the end", () -> value(MILLION + "+999-999", 999001));
        Check.edge("I: a difference of -10 to the 6 is that", () -> value("0-999*999-999-999-1", -1000000));
        Check.edge("I: a difference of one more is that", () -> value("0-999*999-999-999", -999999));
        Check.edge("I: a difference below -10 to the 6", () -> value("0-" + MILLION + "-1", -1000000));
        Check.edge("I: a difference is cut at once", () -> value("0-" + MILLION + "-999+999", -999001));
        Check.edge("I: a difference above 10 to the 6", () -> value(MILLION + "-(0-1)", 1000000));
        Check.edge("I: a sum below -10 to the 6", () -> value("0-" + MILLION + "+(0-1)", -1000000));
        Check.edge("I: from the left on", () -> value("10-4-3", 3));
        Check.edge("I: PRODUCTS ahead of sums", () -> value("1+2*3-8/4", 5));
        Check.edge("I: ( ) ahead of all", () -> value("(1+2)*(3-8)/(4)", -4));
        Check.edge("I: min and max of like ones, of ones below 0", () -> value("min(5,5)*100+max(0-3,0-2)*10+min(0-3,0-2)", 477));
        Check.edge("I: VARS are 0 at first", () -> value("w", 0));
        Check.edge("I: a VAR is what it was set last", () -> {
            SipMeter x = ran("var v;var w;set v = 5;set w = v;set v = v-7;");
            Check.due("v", x.value(0), -2);
            Check.due("w", x.value(1), 5);
        });
    }

    private static void products() {
        Check.edge("I: a product of 10 to the 6 is that", () -> value(MILLION + "*1", 1000000));
        Check.edge("I: a product above 10 to the 6", () -> value("999*999*2", 1000000));
        Check.edge("I: a product below -10 to the 6", () -> value("999*999*(0-2)", -1000000));
        Check.edge("I: a product of two greatest ones does not wrap around", () -> value(MILLION + "*" + MILLION, 1000000));
        Check.edge("I: a product of the greatest and the least", () -> value(MILLION + "*(0-" + MILLION + ")", -1000000));
        Check.edge("I: a product of two least ones", () -> value("(0-" + MILLION + ")*(0-" + MILLION + ")", 1000000));
        Check.edge("I: a product is cut at once", () -> value("999*999*999/999", 1001));
        Check.edge("I: / by 0", () -> value("7/0", 0));
        Check.edge("I: % by 0", () -> value("7%0", 0));
        Check.edge("I: / by 0 of one below 0", () -> value("(0-7)/w", 0));
        Check.edge("I: % by 0 of one below 0", () -> value("(0-7)%w", 0));
        Check.edge("I: 0 by 0", () -> value("0/0+0%0", 0));
        Check.edge("I: / of one below 0 goes down", () -> value("(0-1)/999", -1));
        Check.edge("I: % of one below 0 is what lacks", () -> value("(0-1)%999", 998));
        Check.edge("I: / by one below 0 goes down", () -> value("1/(0-999)", -1));
        Check.edge("I: % by one below 0 is what lacks", () -> value("1%(0-999)", -998));
        Check.edge("I: / of two below 0", () -> value("(0-7)/(0-2)", 3));
        Check.edge("I: % of two below 0", () -> value("(0-7)%(0-2)", -1));
        Check.edge("I: / and % without a rest", () -> value("(0-8)/2*10+(0-8)%2", -40));
        Check.edge("I: / of the least by -1", () -> value("(0-" + MILLION + ")/(0-1)", 1000000));
        Check.edge("I: PRODUCTS from the left on", () -> value("100/7*7%5*3", 9));
    }

    private static void ticks() {
        Check.edge("II: tick behind the first own TICK is 1", () -> value("tick", 1));
        Check.edge("II: tick has the TICKS of all LINES ahead", () -> {
            SipMeter x = ran(PART + "cache 1 1 4;var v;use a 5;wait 6;touch 9;hold a;set v = tick;");
            // use 8, wait 7, touch 5, hold: TAIL is gone, 3; set 1
            Check.due("tick", x.value(0), 24);
        });
        Check.edge("II: a SUM is worked ahead of the LINE's other TICKS", () -> Check.due("TICKS", ran("wait tick;wait tick;").ran(0), 2 + 4));
        Check.edge("II: tick in a TEST counts that look's own TICK", () -> Check.due("looks", ran("while tick < 9 {}").ran(0), 9));
    }

    // ---- ORDERS

    private static void use(String sum, int worked) {
        SipMeter x = ran(PART + "use a " + sum + ";");
        row("use of " + sum, spent(x, 0), 1, 2, 3, worked);
        row("its STRETCH", stretch(x, 0, 0), 1, 6 + worked, 3);
    }

    private static void uses() {
        Check.edge("II: a use of 0 TICKS", () -> use("0", 0));
        Check.edge("II: a use of 1 TICK", () -> use("1", 1));
        Check.edge("II: a use of 50 TICKS", () -> use("50", 50));
        Check.edge("II: a use of 51 TICKS", () -> use("51", 50));
        Check.edge("II: a use of 10 to the 6 TICKS", () -> use(MILLION, 50));
        Check.edge("II: a use of -1 TICKS", () -> use("0-1", 0));
        Check.edge("II: a use of -10 to the 6 TICKS", () -> use("0-" + MILLION, 0));
        Check.edge("II: a use of what has TAIL left wakes nothing", () -> row("spent", spent(ran(PART + "use a 1;use a 1;"), 0), 1, 2, 1 + 3, 2));
        Check.edge("II: a use when one TICK of TAIL is left behind its own", () ->
            row("spent", spent(ran(PART + "use a 1;wait 0;use a 1;"), 0), 1, 2, 2 + 3, 2));
        Check.edge("II: a use when its own TICK took the last of TAIL wakes again", () ->
            row("spent", spent(ran(PART + "use a 1;wait 1;use a 1;"), 0), 1, 4, 3 + 3, 2));
        Check.edge("II: a use of what is held wakes nothing", () -> row("spent", spent(ran(PART + "hold a;wait 9;use a 2;free a;"), 0), 1, 2, 12 + 3, 2));
        Check.edge("II: a WAKE of no TICKS", () -> row("spent", spent(ran("part a sleep 1 wake 0 9 on 3 work 20 tail 1;use a 1;"), 0), 1, 0, 1, 1));
        Check.edge("II: a WAKE of 20 TICKS", () -> row("spent", spent(ran("part a sleep 1 wake 20 9 on 3 work 20 tail 1;use a 1;"), 0), 1, 20, 1, 1));
        Check.edge("II: a use of no TICKS, no WAKE, no TAIL is in no TICK", () -> {
            SipMeter x = ran(BARE + "use a 0;");
            row("spent", spent(x, 0), 1, 0, 0, 0);
            Check.due("stretches", x.stretches(0), 0);
        });
        Check.edge("II: one PART's use leaves the others be", () -> {
            SipMeter x = ran(PART + "part b sleep 2 wake 1 1 on 1 work 1 tail 1;use a 2;");
            row("spent", spent(x, 1), 8, 0, 0, 0);
        });
    }

    private static void holds() {
        Check.edge("II: a hold of what is held is nothing more", () -> {
            SipMeter x = ran(PART + "hold a;hold a;");
            Check.due("TICKS", x.ran(0), 4);
            row("spent", spent(x, 0), 1, 2, 1, 0);
            Check.due("its LINES", x.lines(0, 0), 1);
        });
        Check.edge("II: a hold of what has TAIL left wakes nothing", () -> {
            SipMeter x = ran(PART + "use a 1;hold a;wait 5;");
            row("spent", spent(x, 0), 1, 2, 7, 1);
        });
        Check.edge("II: a hold whose own TICK took the last of TAIL wakes again", () -> {
            SipMeter x = ran("part a sleep 1 wake 2 10 on 3 work 20 tail 1;use a 1;hold a;");
            row("spent", spent(x, 0), 1, 4, 1, 1);
        });
        Check.edge("II: a hold with no WAKE holds from behind its own TICK", () -> {
            SipMeter x = ran(BARE + "hold a;wait 0;");
            row("spent", spent(x, 0), 1, 0, 1, 0);
        });
        Check.edge("II: a hold with no WAKE that is the last LINE is in no TICK", () -> {
            SipMeter x = ran(BARE + "hold a;");
            Check.due("stretches", x.stretches(0), 0);
            Check.due("never", x.never(), 1);
        });
        Check.edge("II: held tells what a hold and a free did", () -> {
            SipMeter x = ran(PART + "var v;if held a { set v = v+1; } hold a;if held a { set v = v+10; } free a;if held a { set v = v+100; }");
            Check.due("value", x.value(0), 10);
        });
        Check.edge("II: a use does not hold", () -> Check.due("value", ran(PART + "var v;use a 1;if held a { set v = 1; }").value(0), 0));
        Check.edge("II: nothing is held at first, again in the next RUN", () -> {
            SipMeter x = ran(PART + "var v;if held a { set v = 1; } hold a;");
            Check.due("run", x.run(-1), WHOLE);
            Check.due("value", x.value(0), 0);
            row("spent", spent(x, 0), 2, 2, 0, 0);
        });
    }

    private static void frees() {
        Check.edge("II: a free of what isn't held is nothing more than its own TICK", () -> {
            SipMeter x = ran(PART + "free a;");
            Check.due("TICKS", x.ran(0), 1);
            Check.due("stretches", x.stretches(0), 0);
        });
        Check.edge("II: a free of what isn't held leaves TAIL as it is", () -> {
            SipMeter x = ran(PART + "use a 1;free a;");
            Check.due("TICKS", x.ran(0), 1 + 2 + 1 + 3);
            Check.due("lines", x.lines(0, 0), 1);
        });
        Check.edge("II: TAIL anew behind a free of what was held", () -> Check.due("TICKS", ran(PART + "hold a;free a;").ran(0), 1 + 2 + 1 + 3));
        Check.edge("II: TAIL of none behind a free", () -> {
            SipMeter x = ran(BARE + "hold a;free a;wait 0;");
            row("spent", spent(x, 0), 2, 0, 1, 0);
        });
        Check.edge("II: a second free is of what isn't held", () -> Check.due("lines", ran(PART + "hold a;free a;free a;").lines(0, 0), 3));
    }

    private static void waits() {
        String[] sums = {"0", "1", "100", "101", MILLION, "0-1", "0-" + MILLION};
        int[] dues = {0, 1, 100, 100, 100, 0, 0};
        for (int i = 0; i < sums.length; i++) {
            int k = i;
            Check.edge("II: wait " + sums[i], () -> Check.due("TICKS", ran("wait " + sums[k] + ";").ran(0), 1 + dues[k]));
        }
    }

    private static void misses(String text, int due) {
        SipMeter x = ran(text);
        Check.due("MISSES of " + text, x.ran(2), due);
    }

    private static void touches() {
        Check.edge("II: the cache is empty at first: WORD 0 is a MISS", () -> misses("touch 0;", 1));
        Check.edge("II: the cache is empty again in the next RUN", () -> {
            SipMeter x = ran("touch 0;touch 0;");
            Check.due("run", x.run(-1), WHOLE);
            Check.due("MISSES", x.ran(2), 1);
        });
        Check.edge("II: 1000 is WORD 0", () -> misses("touch 0;touch 999+1;", 1));
        Check.edge("II: 999 is not", () -> misses("touch 0;touch 999;", 2));
        Check.edge("II: -1 is WORD 999", () -> misses("touch 999;touch 0-1;", 1));
        Check.edge("II: -1000 is WORD 0", () -> misses("touch 0;touch 0-999-1;", 1));
        Check.edge("II: 10 to the 6 is WORD 0", () -> misses("touch 0;touch " + MILLION + ";", 1));
        Check.edge("II: -10 to the 6 is WORD 0", () -> misses("touch 0;touch 0-" + MILLION + ";", 1));
        Check.edge("II: BLOCKS are WIDE", () -> misses("cache 1 4 0;touch 4;touch 7;touch 3;touch 4;touch 8;", 4));
        Check.edge("II: the last WORD of all in eight SETS", () -> misses("cache 8 8 0;touch 999;touch 992;touch 991;touch 999;", 2));
        Check.edge("II: a SET keeps the BLOCK touched last alone", () -> misses("cache 2 1 0;touch 0;touch 2;touch 0;touch 1;touch 0;", 4));
        Check.edge("II: SETS leave one another be", () -> misses("cache 3 1 0;touch 0;touch 1;touch 2;touch 0;touch 1;touch 2;", 3));
        Check.edge("II: a MISS takes MISS TICKS, a hit none", () -> {
            SipMeter x = ran("cache 1 1 20;touch 5;touch 5;");
            Check.due("TICKS", x.ran(0), 22);
            Check.due("touches", x.ran(3), 2);
            Check.due("own TICKS", x.ran(4), 2);
        });
    }

    private static void branches() {
        Check.edge("II: while whose TEST fails at once takes one TICK", () -> Check.due("own", ran("while 1 < 0 { wait 9; }").ran(4), 1));
        Check.edge("II: while takes a TICK for each look, the last one, too", () ->
            Check.due("own", ran("var v;while v < 3 { set v = v+1; }").ran(4), 4 + 3));
        Check.edge("II: if takes one TICK, either way", () -> {
            Check.due("own", ran("if all { wait 0; } else { wait 0; wait 0; }").ran(4), 2);
            Check.due("own", ran("if not all { wait 0; } else { wait 0; wait 0; }").ran(4), 3);
        });
        Check.edge("II: if without else whose TEST fails", () -> Check.due("own", ran("if not all { wait 0; }").ran(4), 1));
        Check.edge("II: < and > of like ones fail, = holds", () -> {
            Check.due("own", ran("if 5 < 5 { wait 0; } if 5 > 5 { wait 0; } if 5 = 5 { wait 0; }").ran(4), 4);
        });
        Check.edge("II: and ahead of or", () -> {
            Check.due("own", ran("if all or all and not all { wait 0; }").ran(4), 2);
            Check.due("own", ran("if [all or all] and not all { wait 0; }").ran(4), 1);
        });
        Check.edge("II: all ways FACTS may be joined", () -> {
            String[] facts = {"all", "not all", "1 < 2", "2 < 1", "2 > 1", "1 > 2", "1 = 1", "1 = 2", "not 2 < 1", "not 1 = 1", "[all]", "not [1 > 2]",
                "held a", "not held a"};
            boolean[] holds = {true, false, true, false, true, false, true, false, true, false, true, true, false, true};
            for (int i = 0; i < facts.length; i++) {
                for (int j = 0; j < facts.length; j++) {
                    SipMeter x = ran(PART + "if " + facts[i] + " and " + facts[j] + " { wait 0; } if " + facts[i] + " or " + facts[j] + " { wait 1; }");
                    int ticks = 2 + (holds[i] && holds[j] ? 1 : 0) + (holds[i] || holds[j] ? 2 : 0);
                    Check.due(facts[i] + " joined with " + facts[j], x.ran(0), ticks);
                }
            }
        });
        Check.edge("II: eight whiles inside one another", () -> {
            SipMeter x = ran("while tick < 9 {".repeat(8) + "}".repeat(8));
            Check.due("own", x.ran(4), 8 + 2 + 7 - 1);
        });
    }

    private static void tails() {
        Check.edge("II: TAIL 50", () -> Check.due("TICKS", ran("part a sleep 0 wake 0 0 on 1 work 1 tail 50;use a 0;").ran(0), 51));
        Check.edge("II: TAIL 0", () -> Check.due("TICKS", ran("part a sleep 0 wake 0 0 on 1 work 1 tail 0;use a 1;").ran(0), 2));
        Check.edge("II: TAIL anew, not in addition", () -> Check.due("TICKS", ran(PART + "use a 0;use a 0;").ran(0), 1 + 2 + 1 + 3));
        Check.edge("II: TAIL is not taken by TICKS that are held", () -> {
            SipMeter x = ran(PART + "hold a;wait 9;free a;");
            Check.due("TICKS", x.ran(0), 1 + 2 + 10 + 1 + 3);
        });
        Check.edge("II: TAIL is not taken by TICKS at work", () -> row("spent", spent(ran(PART + "use a 1;use a 9;"), 0), 1, 2, 1 + 3, 10));
    }

    // ---- how a RUN ends

    /** Idles up to a TICK above 1499. */
    private static String upTo(int tick) {
        return "while tick < 999+500+" + (tick - 1499) + " {} ";
    }

    private static void cut(String text, int how, int line, int ticks, int owns) {
        SipMeter x = new SipMeter();
        Check.due("text() of " + text, Check.text(x, text) >= 0, true);
        Check.due("run of " + text, x.run(-1), how);
        Check.due("TICKS of " + text, x.ran(0), ticks);
        Check.due("own TICKS of " + text, x.ran(4), owns);
        Check.due("the LINE of " + text, x.ran(5), line);
    }

    private static void longRuns() {
        Check.edge("II: 2000 TICKS are not LONG", () -> cut(upTo(1998) + "wait 1;", WHOLE, -1, 2000, 1999));
        Check.edge("II: the 2001st TICK is, an own one", () -> cut(upTo(1999) + "wait 0;wait 0;", LONG, 2, 2000, 2000));
        Check.edge("II: the 2001st TICK is, of a wait", () -> cut(upTo(1999) + "wait 1;", LONG, 1, 2000, 2000));
        Check.edge("II: the 2001st TICK is, of a look", () -> cut("while all {}", LONG, 0, 2000, 2000));
        Check.edge("II: the 2001st TICK is, of a MISS", () -> cut("cache 1 1 2;" + upTo(1998) + "touch 1;", LONG, 1, 2000, 1999));
        Check.edge("II: the 2001st TICK is, of a WAKE", () -> cut(PART + upTo(1998) + "use a 1;", LONG, 1, 2000, 1999));
        Check.edge("II: the 2001st TICK is, of work", () -> cut(PART + upTo(1996) + "use a 2;", LONG, 1, 2000, 1997));
        Check.edge("II: the 2001st TICK is, of a hold's WAKE", () -> cut(PART + upTo(1998) + "hold a;", LONG, 1, 2000, 1999));
        Check.edge("II: LONG ends before the set is done", () -> {
            SipMeter x = Check.with("var v;set v = 1;" + upTo(1999) + "set v = 2;set v = 3;", 4);
            Check.due("run", x.run(-1), LONG);
            Check.due("value", x.value(0), 2);
            Check.due("sips", x.ran(1), 2000);
        });
        Check.edge("II: nothing goes on behind a LONG RUN", () -> {
            SipMeter x = Check.with("part a sleep 0 wake 0 0 on 1 work 1 tail 50;" + upTo(1999) + "use a 0;wait 0;", 3);
            Check.due("run", x.run(-1), LONG);
            Check.due("TICKS", x.ran(0), 2000);
            Check.due("ON", x.spent(0, 2), 0);
        });
    }

    private static void purse(String text, int purse, int how, int sips, int ticks) {
        SipMeter x = new SipMeter();
        Check.due("text() of " + text, Check.text(x, text) >= 0, true);
        Check.due("run(" + purse + ") of " + text, x.run(purse), how);
        Check.due("sips of " + text, x.ran(1), sips);
        Check.due("TICKS of " + text, x.ran(0), ticks);
    }

    private static void emptyRuns() {
        Check.edge("II: a PURSE that is just enough", () -> purse("heart 7;wait 2;", 21, WHOLE, 21, 3));
        Check.edge("II: a PURSE of one less", () -> purse("heart 7;wait 2;", 20, EMPTY, 14, 2));
        Check.edge("II: a PURSE of 0", () -> purse("heart 7;wait 2;", 0, EMPTY, 0, 0));
        Check.edge("II: a PURSE of 0 for what sips nothing", () -> purse("heart 0;wait 2;", 0, WHOLE, 0, 3));
        Check.edge("II: a PURSE of 0 for no ORDERS", () -> purse("heart 7;part a sleep 9 wake 0 0 on 0 work 0 tail 0;", 0, WHOLE, 0, 0));
        Check.edge("II: a PURSE less than the first TICK", () -> purse("heart 7;wait 2;", 6, EMPTY, 0, 0));
        Check.edge("II: a PURSE of the first TICK alone", () -> purse("heart 7;wait 2;", 7, EMPTY, 7, 1));
        Check.edge("II: the greatest PURSE", () -> purse("heart 7;wait 2;", GREATEST, WHOLE, 21, 3));
        Check.edge("II: sleeping PARTS empty it, too", () -> purse("heart 0;" + BARE + "wait 9;", 4, EMPTY, 4, 4));
        // own 1 + 1, WAKE 2 of 1 + 10, work 1 of 1 + 20
        Check.edge("II: EMPTY in a WAKE", () -> purse(PART + "use a 1;", 23, EMPTY, 13, 2));
        Check.edge("II: EMPTY at work", () -> purse(PART + "use a 1;", 44, EMPTY, 24, 3));
        Check.edge("II: TAIL behind the last LINE needs no PURSE", () -> purse(PART + "use a 1;", 45, WHOLE, 45 + 9, 7));
        Check.edge("II: EMPTY while it is ON", () -> purse(PART + "use a 1;wait 0;", 48, EMPTY, 45, 4));
        Check.edge("II: just enough while it is ON", () -> purse(PART + "use a 1;wait 0;", 49, WHOLE, 49 + 6, 7));
        Check.edge("II: EMPTY in a MISS", () -> purse("cache 1 1 5;touch 1;", 3, EMPTY, 3, 3));
        Check.edge("II: each of six PARTS empties it", () -> {
            StringBuilder parts = new StringBuilder("heart 0;");
            for (int i = 0; i < 6; i++) {
                parts.append("part ").append((char) ('a' + i)).append(" sleep ").append(1 << i).append(" wake 0 0 on 0 work 0 tail 0;");
            }
            // 1 + 2 + 4 .. + 32 in a TICK
            purse(parts + "wait 1;", 125, EMPTY, 63, 1);
            purse(parts + "wait 1;", 126, WHOLE, 126, 2);
        });
        Check.edge("II: another PART that is at work, waking, ON empties it by its own numbers", () -> {
            String two = "heart 0;part a sleep 1 wake 1 2 on 3 work 4 tail 5;part b sleep 10 wake 1 20 on 30 work 40 tail 1;";
            // own 11, WAKE 21, work 41, own of wait 31
            purse(two + "use b 1;wait 0;", 11 + 21 + 41 + 30, EMPTY, 73, 3);
            purse(two + "use b 1;wait 0;", 11 + 21 + 41 + 31, WHOLE, 104, 4);
            // own 11, WAKE 12, work 14, own of use b 13, WAKE 23
            purse(two + "use a 1;use b 0;", 11 + 12 + 14 + 13 + 22, EMPTY, 50, 4);
            // TAIL of a 5 has 3 left: a is ON in them, b in 1 of them
            purse(two + "use a 1;use b 0;", 11 + 12 + 14 + 13 + 23, WHOLE, 73 + 33 + 13 + 13, 8);
        });
        Check.edge("II: the LINE at which it was EMPTY", () -> {
            SipMeter x = Check.with("wait 1;wait 1;wait 1;", 3);
            int[] lines = {0, 0, 1, 1, 2, 2, -1};
            for (int purse = 0; purse <= 6; purse++) {
                Check.due("run(" + purse + ")", x.run(purse), purse < 6 ? EMPTY : WHOLE);
                Check.due("the LINE", x.ran(5), lines[purse]);
            }
        });
        Check.edge("II: each RUN has its own PURSE", () -> {
            SipMeter x = Check.with("wait 9;", 1);
            Check.due("run(10)", x.run(10), WHOLE);
            Check.due("run(10)", x.run(10), WHOLE);
            Check.due("run(9)", x.run(9), EMPTY);
            Check.due("run(NONE)", x.run(-1), WHOLE);
        });
    }

    private static void behindTheLastLine() {
        Check.edge("II: TICKS go on behind 2000", () -> {
            SipMeter x = Check.with("part a sleep 0 wake 0 0 on 1 work 1 tail 50;" + upTo(1999) + "use a 0;", 2);
            Check.due("run", x.run(-1), WHOLE);
            Check.due("TICKS", x.ran(0), 2050);
            Check.due("own TICKS", x.ran(4), 2000);
            Check.due("the heart sips nothing in them", x.ran(1), 2000 + 50);
            row("stretch", stretch(x, 0, 0), 2000, 2050, 50);
        });
        Check.edge("II: till no PART has TAIL left: the longest one", () -> {
            SipMeter x = ran("part a sleep 2 wake 0 0 on 1 work 1 tail 5;part b sleep 3 wake 0 0 on 1 work 1 tail 9;use a 0;use b 0;");
            Check.due("TICKS", x.ran(0), 11);
            row("a", spent(x, 0), 1 + 5, 0, 5, 0);
            row("b", spent(x, 1), 2, 0, 9, 0);
        });
        Check.edge("II: held ones are ON in these, too", () -> {
            SipMeter x = ran(BARE + "part b sleep 0 wake 0 0 on 1 work 1 tail 4;hold a;use b 0;");
            row("a", spent(x, 0), 1, 0, 5, 0);
            row("stretch", stretch(x, 0, 0), 1, 6, 5);
        });
        Check.edge("II: held ones alone let no TICKS go on", () -> Check.due("TICKS", ran(PART + "hold a;use a 3;").ran(0), 1 + 2 + 1 + 3));
        Check.edge("II: a held one that had TAIL left lets none go on", () -> Check.due("TICKS", ran(PART + "use a 1;hold a;").ran(0), 1 + 2 + 1 + 1));
        Check.edge("II: no TICKS go on without TAIL", () -> Check.due("TICKS", ran(PART + "use a 1;wait 3;").ran(0), 8));
    }

    private static void cutOff() {
        Check.edge("II: a use cut off ahead of its first WAKE TICK was none", () -> {
            SipMeter x = Check.with(PART + "use a 1;", 1);
            Check.due("run", x.run(2), EMPTY);
            Check.due("stretches", x.stretches(0), 0);
            row("spent", spent(x, 0), 1, 0, 0, 0);
        });
        Check.edge("II: a use cut off behind its first WAKE TICK was one", () -> {
            SipMeter x = Check.with(PART + "use a 1;", 1);
            Check.due("run", x.run(13), EMPTY);
            Check.due("lines", x.lines(0, 0), 1);
            row("stretch", stretch(x, 0, 0), 1, 2, 0);
        });
        Check.edge("II: a use cut off ahead of its first work TICK was none", () -> {
            SipMeter x = Check.with(PART + "hold a;use a 1;", 2);
            // hold 2 + 22, own TICK of the use 1 + 3
            Check.due("run", x.run(28), EMPTY);
            Check.due("lines", x.lines(0, 0), 1);
            row("stretch", stretch(x, 0, 0), 1, 4, 1);
        });
        Check.edge("II: a use cut off behind its first work TICK was one", () -> {
            SipMeter x = Check.with(PART + "hold a;use a 2;", 2);
            Check.due("run", x.run(28 + 21), EMPTY);
            Check.due("lines", x.lines(0, 0), 3);
        });
        Check.edge("II: a use of no TICKS of what is held can't be cut off", () -> {
            SipMeter x = Check.with(PART + "hold a;use a 0;wait 0;", 3);
            Check.due("run", x.run(28), EMPTY);
            Check.due("the LINE", x.ran(5), 2);
            Check.due("lines", x.lines(0, 0), 3);
        });
        Check.edge("II: a hold cut off ahead of its first WAKE TICK was none", () -> {
            SipMeter x = Check.with(PART + "hold a;", 1);
            Check.due("run", x.run(2), EMPTY);
            Check.due("stretches", x.stretches(0), 0);
        });
        Check.edge("II: a hold cut off behind its first WAKE TICK was one", () -> {
            SipMeter x = Check.with(PART + "hold a;", 1);
            Check.due("run", x.run(13), EMPTY);
            Check.due("lines", x.lines(0, 0), 1);
        });
        Check.edge("II: a hold without WAKE TICKS can't be cut off", () -> {
            SipMeter x = Check.with(BARE + "hold a;wait 0;wait 0;", 3);
            // own TICK 1 + 1, wait 1 + 3
            Check.due("run", x.run(6), EMPTY);
            Check.due("lines", x.lines(0, 0), 1);
            row("stretch", stretch(x, 0, 0), 1, 2, 1);
        });
        Check.edge("II: a use cut off ahead of its own TICK was none", () -> {
            SipMeter x = Check.with(PART + "hold a;use a 1;", 2);
            Check.due("run", x.run(24), EMPTY);
            Check.due("own TICKS", x.ran(4), 1);
            Check.due("the LINE", x.ran(5), 1);
            Check.due("lines", x.lines(0, 0), 1);
        });
    }

    // ---- promises 14 and 15

    private static void stretches() {
        Check.edge("II: TAIL and the next WAKE side by side are one STRETCH", () -> {
            SipMeter x = ran(PART + "use a 1;wait 1;use a 1;");
            Check.due("stretches", x.stretches(0), 1);
            row("stretch", stretch(x, 0, 0), 1, 1 + 2 + 1 + 3 + 2 + 1 + 3, 6);
        });
        Check.edge("II: one TICK asleep between makes two", () -> {
            SipMeter x = ran(PART + "use a 1;wait 2;use a 1;");
            Check.due("stretches", x.stretches(0), 2);
            row("the first", stretch(x, 0, 0), 1, 7, 3);
            row("the second", stretch(x, 0, 1), 8, 14, 3);
        });
        Check.edge("II: a STRETCH of one TICK", () -> {
            SipMeter x = ran(BARE + "use a 1;");
            row("stretch", stretch(x, 0, 0), 1, 2, 0);
        });
        Check.edge("II: LINES just ahead of the first TICK", () -> Check.due("lines", ran("part a sleep 0 wake 0 0 on 1 work 1 tail 1;use a 0;").lines(0, 0), 1));
        Check.edge("II: not those further ahead", () -> Check.due("lines", ran(BARE + "use a 0;use a 1;").lines(0, 0), 2));
        Check.edge("II: a free in the last TICK is one of its LINES", () -> Check.due("lines", ran(BARE + "hold a;free a;wait 1;").lines(0, 0), 3));
        Check.edge("II: a use of no TICKS in the last TICK is one of its LINES", () -> Check.due("lines", ran(PART + "hold a;use a 0;").lines(0, 0), 3));
        Check.edge("II: LINES of each STRETCH apart", () -> {
            SipMeter x = ran(BARE + "use a 1;use a 1;hold a;free a;");
            long[] lines = {1, 2, 12};
            for (int k = 0; k < 3; k++) {
                Check.due("lines", x.lines(0, k), lines[k]);
            }
            Check.due("no fourth", x.lines(0, 3), 0);
        });
        Check.edge("II: a LINE that used it twice is one LINE", () -> Check.due("lines", ran(PART + "var v;while v < 2 { use a 1; set v = v+1; }").lines(0, 0), 2));
        Check.edge("promise 14: no STRETCH", () -> Check.due("stretches", ran(PART + "wait 3;").stretches(0), 0));
        Check.edge("promise 14: as many as can be", () -> {
            SipMeter x = Check.with(BARE + "while all { use a 1; }", 2);
            Check.due("run", x.run(-1), LONG);
            // look, own TICK, work: work at 2, 5 .. 1997
            Check.due("stretches", x.stretches(0), 666);
            row("the last", stretch(x, 0, 665), 1997, 1998, 0);
            Check.due("behind", x.stretch(0, 666, 0), -1);
        });
        Check.edge("promise 14: no such PART", () -> {
            SipMeter x = ran(PART + "use a 1;");
            for (int part : new int[] {LEAST, -1, 1, 6, GREATEST}) {
                Check.due("stretches(" + part + ")", x.stretches(part), -1);
            }
        });
        Check.edge("promise 15: no such STRETCH, PART or what", () -> {
            SipMeter x = ran(PART + "use a 1;");
            for (int n : new int[] {LEAST, -1, 1, 6, GREATEST}) {
                Check.due("stretch(" + n + ", 0, 0)", x.stretch(n, 0, 0), -1);
                Check.due("stretch(0, " + n + ", 0)", x.stretch(0, n, 0), -1);
            }
            for (int what : new int[] {LEAST, -1, 3, GREATEST}) {
                Check.due("stretch(0, 0, " + what + ")", x.stretch(0, 0, what), -1);
            }
        });
        Check.edge("promise 15: the first TICK of all is 0", () -> {
            SipMeter x = ran(PART + "use a 1;");
            Check.due("the own TICK is 0, the WAKE's first is 1", x.stretch(0, 0, 0), 1);
        });
        Check.edge("promise 15: STRETCHES of two PARTS apart", () -> {
            SipMeter x = ran(BARE + "part b sleep 0 wake 0 0 on 1 work 1 tail 0;use b 2;use a 1;use b 1;");
            row("a", stretch(x, 0, 0), 4, 5, 0);
            row("b", stretch(x, 1, 0), 1, 3, 0);
            row("b", stretch(x, 1, 1), 6, 7, 0);
            Check.due("a has one", x.stretches(0), 1);
            Check.due("b has two", x.stretches(1), 2);
        });
    }

    // ---- promises 9 to 12

    private static void runs() {
        Check.edge("promise 9: a PURSE below NONE", () -> {
            SipMeter x = Check.with("wait 1;", 1);
            Check.due("run(-2)", x.run(-2), -2);
            Check.due("run(least)", x.run(LEAST), -2);
            Check.due("nothing was run", x.ran(0), -1);
        });
        Check.edge("promise 9: a refused one leaves the latest RUN", () -> {
            SipMeter x = ran("wait 1;");
            Check.due("run(-2)", x.run(-2), -2);
            Check.due("TICKS", x.ran(0), 2);
        });
        Check.edge("promise 9: NONE is without a PURSE", () -> Check.due("sips", ran("heart 999;wait 100;").ran(1), 999 * 101));
        Check.edge("promise 9: a RUN of no LINES", () -> Check.due("TICKS", ran(PART).ran(0), 0));
        Check.edge("promise 9: the same RUN twice", () -> {
            SipMeter x = ran(PART + "cache 1 1 9;var v;set v = v+1;touch 3;use a v;hold a;");
            int[] first = {x.ran(0), x.ran(1), x.ran(2), x.value(0), x.spent(0, 2), x.stretches(0), x.pays(2, 0)};
            Check.due("run", x.run(-1), WHOLE);
            row("again", first, x.ran(0), x.ran(1), x.ran(2), x.value(0), x.spent(0, 2), x.stretches(0), x.pays(2, 0));
        });
    }

    private static void rans() {
        Check.edge("promise 10: without a RUN", () -> {
            SipMeter x = Check.with("wait 1;", 1);
            for (int what = 0; what <= 5; what++) {
                Check.due("ran(" + what + ")", x.ran(what), -1);
            }
        });
        Check.edge("promise 10: for others", () -> {
            SipMeter x = ran("wait 1;");
            for (int what : new int[] {LEAST, -1, 6, GREATEST}) {
                Check.due("ran(" + what + ")", x.ran(what), -1);
            }
        });
        Check.edge("promise 10: TICKS and sips behind the last LINE, too", () -> {
            SipMeter x = ran(PART + "use a 1;");
            Check.due("TICKS", x.ran(0), 7);
            Check.due("sips", x.ran(1), 1 + 1 + 22 + 21 + 9);
        });
        Check.edge("promise 10: the most that can be sipped", () -> {
            StringBuilder text = new StringBuilder("heart 999;");
            for (char c = 'a'; c < 'g'; c++) {
                text.append("part ").append(c).append(" sleep 999 wake 0 0 on 999 work 999 tail 50;");
            }
            SipMeter x = Check.with(text + upTo(1999) + "use a 0;", 2);
            Check.due("run", x.run(-1), WHOLE);
            Check.due("sips", x.ran(1), 999 * (2000 + 6 * 2050));
        });
        Check.edge("promise 10: NONE for the LINE of a WHOLE RUN", () -> Check.due("ran(5)", ran("wait 1;").ran(5), -1));
        Check.edge("promise 10: the latest RUN alone", () -> {
            SipMeter x = Check.with("input n 0 9;wait n;", 1);
            Check.due("run", x.run(-1), WHOLE);
            Check.due("put", x.put(0, 9), true);
            Check.due("the old one yet", x.ran(0), 1);
            Check.due("run", x.run(4), EMPTY);
            Check.due("TICKS", x.ran(0), 4);
            Check.due("the LINE", x.ran(5), 0);
            Check.due("run", x.run(-1), WHOLE);
            Check.due("TICKS", x.ran(0), 10);
            Check.due("no LINE", x.ran(5), -1);
        });
    }

    private static void valuesAndSpent() {
        Check.edge("promise 11: no such VAR", () -> {
            SipMeter x = ran("var v;var w;set w = 3;");
            for (int v : new int[] {LEAST, -1, 2, 6, GREATEST}) {
                Check.due("value(" + v + ")", x.value(v), -2000000000);
            }
            Check.due("the last one", x.value(1), 3);
        });
        Check.edge("promise 11: ahead of a RUN", () -> Check.due("value", Check.with("var v;", 0).value(0), -2000000000));
        Check.edge("promise 11: six VARS", () -> {
            SipMeter x = ran("var u;var v;var w;var x;var y;var z;set u = 1;set z = 6;");
            int[] values = {1, 0, 0, 0, 0, 6};
            for (int v = 0; v < 6; v++) {
                Check.due("value(" + v + ")", x.value(v), values[v]);
            }
        });
        Check.edge("promise 11: the greatest and the least", () -> {
            SipMeter x = ran("var v;var w;set v = " + MILLION + "*9;set w = 0-v*9;");
            Check.due("v", x.value(0), 1000000);
            Check.due("w", x.value(1), -1000000);
        });
        Check.edge("promise 12: no such PART, or for others", () -> {
            SipMeter x = ran(PART + "use a 1;");
            for (int n : new int[] {LEAST, -1, 4, GREATEST}) {
                Check.due("spent(0, " + n + ")", x.spent(0, n), -1);
            }
            for (int part : new int[] {LEAST, -1, 1, 6, GREATEST}) {
                Check.due("spent(" + part + ", 0)", x.spent(part, 0), -1);
            }
        });
        Check.edge("promise 12: all TICKS of a RUN are spent somehow", () -> {
            SipMeter x = ran(PART + "part b sleep 0 wake 1 1 on 1 work 1 tail 9;hold a;use b 2;free a;use a 3;");
            for (int p = 0; p < 2; p++) {
                int[] spent = spent(x, p);
                Check.due("TICKS", spent[0] + spent[1] + spent[2] + spent[3], x.ran(0));
            }
        });
    }
}
