/** Promises 19 to 23: the greatest and the least over all inputs, measured rows and the fit to them. */
public final class OverTest {
    public static void main(String[] args) {
        oneInput();
        twoInputs();
        manyWays();
        longOnes();
        theRunStays();
        measured();
        fits();
        fitsOfNone();
        Check.finish("OverTest");
    }

    private static void oneInput() {
        SipMeter x = Check.with("input n 0 3;part a sleep 0 wake 0 0 on 0 work 10 tail 0;use a n%3;", 1);
        Check.due("where ahead of any", x.where(0), -1);
        Check.due("greatest", x.over(true), 23);
        Check.due("where", x.where(0), 2);
        Check.due("least", x.over(false), 1);
        Check.due("the first of like ones", x.where(0), 0);
        Check.due("greatest again", x.over(true), 23);
        Check.due("where again", x.where(0), 2);
        Check.due("where(1)", x.where(1), -1);
        Check.due("where(-1)", x.where(-1), -1);
        Check.due("where(greatest)", x.where(2147483647), -1);
        Check.due("another text", Check.text(x, "input n 4 5;wait n;"), 1);
        Check.due("where behind another text", x.where(0), -1);
        Check.due("its greatest", x.over(true), 6);
        Check.due("its where", x.where(0), 5);
    }

    private static void twoInputs() {
        SipMeter x = Check.with("input n 0 1;input m 0 1;if n = m { wait 5; }", 2);
        Check.due("greatest", x.over(true), 7);
        Check.due("the first INPUT's lesser", x.where(0), 0);
        Check.due("then the second's", x.where(1), 0);
        Check.due("least", x.over(false), 1);
        Check.due("the first INPUT's lesser", x.where(0), 0);
        Check.due("then the second's", x.where(1), 1);
        x = Check.with("input n 1 2;input m 3 5;input k 6 9;wait k-m+n;", 1);
        Check.due("greatest", x.over(true), 9);
        Check.due("n", x.where(0), 2);
        Check.due("m", x.where(1), 3);
        Check.due("k", x.where(2), 9);
        Check.due("least", x.over(false), 3);
        Check.due("n", x.where(0), 1);
        Check.due("m", x.where(1), 5);
        Check.due("k", x.where(2), 6);
    }

    private static void manyWays() {
        SipMeter x = Check.with("input a 0 15;input b 0 15;input c 7 7;wait a+b;", 1);
        Check.due("256 ways", x.over(true), 31);
        Check.due("a", x.where(0), 15);
        Check.due("c", x.where(2), 7);
        x = Check.with("input a 0 15;input b 0 15;input c 7 8;wait a+b;", 1);
        Check.due("512 ways", x.over(true), -1);
        Check.due("no where", x.where(0), -1);
        x = Check.with("input a 0 99;input b 0 2;wait a;", 1);
        Check.due("300 ways", x.over(false), -1);
        x = Check.with("input a 0 99;input b 0 99;input c 0 99;wait a;", 1);
        Check.due("a million ways", x.over(false), -1);
        x = Check.with("wait 4;", 1);
        Check.due("one way", x.over(false), 5);
        Check.due("no INPUT", x.where(0), -1);
    }

    private static void longOnes() {
        SipMeter x = Check.with("input n 0 1;while n = 1 {}", 1);
        Check.due("a LONG one counts", x.over(true), 2000);
        Check.due("where", x.where(0), 1);
        Check.due("least", x.over(false), 1);
    }

    private static void theRunStays() {
        SipMeter x = Check.with("input n 0 9;var v;part a sleep 1 wake 1 1 on 1 work 1 tail 1;use a n;set v = n;", 2);
        Check.due("put", x.put(0, 4), true);
        Check.due("run", x.run(3), 2);
        Check.due("over", x.over(true) > 0, true);
        Check.due("measure", x.measure(5), 1);
        Check.due("fit", x.fit(0) >= 0, true);
        Check.due("the latest RUN stays", x.ran(0), 1);
        Check.due("its LINE stays", x.ran(5), 0);
        Check.due("its VAR stays", x.value(0), 0);
        Check.due("what is put stays", x.run(-1) == 0 && x.value(0) == 4, true);
        x = Check.with("wait 1;", 1);
        Check.due("over", x.over(true), 2);
        Check.due("measure", x.measure(5), 1);
        Check.due("these are no RUN", x.ran(0), -1);
        Check.due("these are no RUN", x.lasts(100, 1, 1), -1);
    }

    private static void measured() {
        SipMeter x = Check.with("input n 0 9;wait n;", 1);
        Check.due("below", x.measure(-1), -1);
        Check.due("above", x.measure(10000001), -1);
        Check.due("none", x.has(4), 0);
        Check.due("least", x.measure(0), 1);
        Check.due("greatest", x.measure(10000000), 2);
        for (int i = 3; i <= 12; i++) {
            Check.due("row " + i, x.measure(i), i);
        }
        Check.due("a 13th", x.measure(1), -1);
        Check.due("twelve", x.has(4), 12);
        Check.due("no PART", x.fit(0), -1);
        Check.due("no FIT", x.fitted(0), -1);
    }

    private static void due(SipMeter x, int sum, int sleep, int on, int work, int like) {
        Check.due("fit", x.fit(0), sum);
        int[] found = {sleep, on, work, like};
        for (int what = 0; what < 4; what++) {
            Check.due("fitted(" + what + ")", x.fitted(what), found[what]);
        }
        Check.due("fitted(4)", x.fitted(4), -1);
        Check.due("fitted(-1)", x.fitted(-1), -1);
    }

    private static void fits() {
        // 4 TICKS asleep, n at work, one ON: it sips 4 + n + 4 SLEEP + n WORK + ON
        SipMeter x = Check.with("part a sleep 3 wake 0 0 on 2 work 7 tail 1;input n 0 5;wait 2;use a n;", 2);
        Check.due("nothing is MEASURED", x.fit(0), -1);
        Check.due("fitted ahead of any", x.fitted(0), -1);
        Check.due("measure", x.measure(18), 1);
        due(x, 0, 0, 14, 0, 64);
        Check.due("put", x.put(0, 1), true);
        Check.due("measure", x.measure(26), 2);
        due(x, 0, 0, 14, 7, 4);
        Check.due("put", x.put(0, 0), true);
        Check.due("measure", x.measure(20), 3);
        due(x, 2, 0, 14, 7, 12);
        Check.due("fit(1)", x.fit(1), -1);
        Check.due("fit(-1)", x.fit(-1), -1);
        Check.due("the FIT stays", x.fitted(1), 14);
        Check.due("the PART's own are as they were", x.run(-1) == 0 && x.ran(1) == 18, true);
        // far above the grid, far below it
        x = Check.with("part a sleep 3 wake 1 100 on 2 work 7 tail 1;use a 2;", 1);
        Check.due("measure", x.measure(10000000), 1);
        due(x, 10000000 - (4 + 100 + 15 + 30 + 15), 15, 15, 15, 1);
        x = Check.with("part a sleep 3 wake 1 100 on 2 work 7 tail 1;use a 2;", 1);
        Check.due("measure", x.measure(0), 1);
        due(x, 104, 0, 0, 0, 1);
    }

    private static void fitsOfNone() {
        SipMeter x = Check.with("part a sleep 3 wake 0 0 on 2 work 7 tail 1;", 0);
        Check.due("measure", x.measure(5), 1);
        due(x, 5, 0, 0, 0, 4096);
    }
}
