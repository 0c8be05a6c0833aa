import java.util.ArrayList;
import java.util.List;
import java.util.Map;
import java.util.Random;

/** Random texts, all answers about their RUNS against those of the slow oracle (promises 4, 6, 8 to 29). */
public final class OracleTest {
    private static final int[] FACTORIAL = {1, 1, 2, 6, 24, 120, 720, 5040, 40320};
    private static final long NO_SHARE = -1000000000000000L;
    private static int deepTurns = 0;

    public static void main(String[] args) {
        int many = args.length > 0 ? Integer.parseInt(args[0]) : 2000;
        int seen = 0;
        int[] outcomes = new int[3];
        for (int seed = 1; seed <= many && !Check.anyWrong(); seed++) {
            Random random = new Random(seed);
            String text = new Texts(seed).make(200 + random.nextInt(500));
            if (text.length() > 900) {
                continue;
            }
            seen++;
            Oracle oracle = new Oracle(text);
            SipMeter x = Check.with(text, oracle.all.size());
            counts(x, oracle);
            for (int round = 0; round < 3; round++) {
                putAll(x, oracle, random);
                compareRun(x, oracle, -1, "seed " + seed + " whole ");
                outcomes[oracle.outcome]++;
                int sips = oracle.sipped;
                compareRun(x, oracle, random.nextInt(sips + 2), "seed " + seed + " purse ");
                outcomes[oracle.outcome]++;
                Check.due("never", x.never(), oracle.never());
            }
            lasts(x, oracle, random);
            over(x, oracle);
            if (seed % 20 == 0) {
                fit(x, oracle, random);
            }
            asks(x, oracle, random, seed % 50 == 0 ? 6 : 3);
            if (Check.anyWrong()) {
                System.out.println("seed " + seed + ": " + text);
            }
        }
        System.out.println(seen + " texts, runs whole/long/empty " + outcomes[0] + "/" + outcomes[1] + "/" + outcomes[2]
            + ", stretches with turns of 5 lines and more: " + deepTurns);
        Check.finish("OracleTest");
    }

    private static void counts(SipMeter x, Oracle oracle) {
        Check.due("has(0)", x.has(0), oracle.parts.size());
        Check.due("has(1)", x.has(1), oracle.inputs.size());
        Check.due("has(2)", x.has(2), oracle.vars.size());
        Check.due("has(3)", x.has(3), oracle.all.size());
    }

    private static void putAll(SipMeter x, Oracle oracle, Random random) {
        for (int i = 0; i < oracle.inputs.size(); i++) {
            int[] range = oracle.ranges.get(i);
            int n = range[0] + random.nextInt(range[1] - range[0] + 1);
            Check.due("put", x.put(i, n), true);
            oracle.ins[i] = n;
        }
    }

    private static void compareRun(SipMeter x, Oracle oracle, int purse, String what) {
        Check.due(what + "run(" + purse + ")", x.run(purse), oracle.run(purse));
        Check.due(what + "ran(0)", x.ran(0), oracle.rows.size());
        Check.due(what + "ran(1)", x.ran(1), oracle.sipped);
        Check.due(what + "ran(2)", x.ran(2), oracle.misses);
        Check.due(what + "ran(3)", x.ran(3), oracle.touches);
        Check.due(what + "ran(4)", x.ran(4), oracle.owns);
        Check.due(what + "ran(5)", x.ran(5), oracle.cutLine);
        for (int v = 0; v < oracle.vars.size(); v++) {
            Check.due(what + "value", x.value(v), oracle.values[v]);
        }
        comparePays(x, oracle, what);
        for (int p = 0; p < oracle.parts.size(); p++) {
            for (int doing = 0; doing < 4; doing++) {
                Check.due(what + "spent(" + p + ", " + doing + ")", x.spent(p, doing), oracle.spent(p, doing));
            }
            compareStretches(x, oracle, p, what);
        }
    }

    private static void comparePays(SipMeter x, Oracle oracle, String what) {
        int[] wasted = oracle.wasted();
        for (int rule = 0; rule < 2; rule++) {
            int[] due = oracle.pays(rule);
            long sum = 0;
            for (int line = 0; line < oracle.all.size(); line++) {
                Check.due(what + "pays(" + line + ", " + rule + ")", x.pays(line, rule), due[line]);
                Check.due(what + "wasted(" + line + ")", x.wasted(line), wasted[line]);
                sum += x.pays(line, rule);
            }
            Check.due(what + "pays(-1, " + rule + ")", x.pays(-1, rule), due[60]);
            Check.due(what + "all that is paid", sum + x.pays(-1, rule), oracle.sipped);
        }
    }

    private static void compareStretches(SipMeter x, Oracle oracle, int p, String what) {
        List<int[]> stretches = oracle.stretches(p);
        Check.due(what + "stretches(" + p + ")", x.stretches(p), stretches.size());
        for (int k = 0; k < stretches.size(); k++) {
            int[] stretch = stretches.get(k);
            String place = what + "stretch(" + p + ", " + k + ") ";
            Check.due(place + 0, x.stretch(p, k, 0), stretch[0]);
            Check.due(place + 1, x.stretch(p, k, 1), stretch[1]);
            Check.due(place + 2, x.stretch(p, k, 2), oracle.onTicks(p, stretch));
            Check.due(place + "lines", x.lines(p, k), oracle.lines(p, stretch));
            if (k < 6) {
                compareTurns(x, oracle, p, k, stretch);
            }
        }
        Check.due(what + "stretch behind", x.stretch(p, stretches.size(), 0), -1);
        Check.due(what + "lines behind", x.lines(p, stretches.size()), 0);
    }

    private static void compareTurns(SipMeter x, Oracle oracle, int p, int k, int[] stretch) {
        long bits = oracle.lines(p, stretch);
        int many = Long.bitCount(bits);
        if (many > 6 && many < 9) {
            if (deepTurns > 60) {
                return;
            }
        }
        deepTurns += many > 4 && many < 9 ? 1 : 0;
        Map<Integer, Long> sums = many > 8 ? Map.of() : oracle.byTurns(p, stretch);
        for (int line = 0; line < oracle.all.size(); line++) {
            long above = x.byTurns(p, k, line, true);
            long below = x.byTurns(p, k, line, false);
            String what = "byTurns(" + p + ", " + k + ", " + line + ") ";
            if (!sums.containsKey(line)) {
                Check.due(what, above, NO_SHARE);
                Check.due(what, below, NO_SHARE);
            } else {
                long sum = sums.get(line);
                long common = gcd(Math.abs(sum), FACTORIAL[many]);
                Check.due(what + "above", above, sum / common);
                Check.due(what + "below", below, FACTORIAL[many] / common);
            }
        }
    }

    private static long gcd(long a, long b) {
        return b == 0 ? a : gcd(b, a % b);
    }

    private static void lasts(SipMeter x, Oracle oracle, Random random) {
        int battery = random.nextInt(1000000001);
        int runs = random.nextInt(1001);
        int ticks = random.nextInt(100001);
        long sleep = 0;
        for (Oracle.Part part : oracle.parts) {
            sleep += part.sleep;
        }
        long day = (long) runs * oracle.sipped + ticks * sleep;
        Check.due("lasts", x.lasts(battery, runs, ticks), day == 0 ? -1 : battery / day);
    }

    private static void over(SipMeter x, Oracle oracle) {
        int ticks = x.ran(0);
        int[] greatest = null;
        int[] least = null;
        int n = oracle.inputs.size();
        int[] a = n > 0 ? oracle.ranges.get(0) : new int[] {0, 0};
        int[] b = n > 1 ? oracle.ranges.get(1) : new int[] {0, 0};
        for (int i = a[0]; i <= a[1]; i++) {
            for (int j = b[0]; j <= b[1]; j++) {
                oracle.ins[0] = i;
                oracle.ins[1] = j;
                oracle.run(-1);
                if (greatest == null || oracle.sipped > greatest[0]) {
                    greatest = new int[] {oracle.sipped, i, j};
                }
                if (least == null || oracle.sipped < least[0]) {
                    least = new int[] {oracle.sipped, i, j};
                }
            }
        }
        compareOver(x, n, true, greatest);
        compareOver(x, n, false, least);
        compareOver(x, n, true, greatest);
        Check.due("the latest run behind over", x.ran(0), ticks);
    }

    private static void compareOver(SipMeter x, int n, boolean greater, int[] due) {
        Check.due("over(" + greater + ")", x.over(greater), due[0]);
        for (int i = 0; i < 3; i++) {
            Check.due("where(" + i + ")", x.where(i), i < n ? due[1 + i] : -1);
        }
    }

    private static void fit(SipMeter x, Oracle oracle, Random random) {
        int rows = 1 + random.nextInt(3);
        List<int[]> measured = new ArrayList<>();
        for (int r = 0; r < rows; r++) {
            putAll(x, oracle, random);
            oracle.run(-1);
            int sips = Math.max(0, oracle.sipped + random.nextInt(200) - 100);
            measured.add(new int[] {oracle.ins[0], oracle.ins[1], sips});
            Check.due("measure", x.measure(sips), r + 1);
        }
        int p = random.nextInt(oracle.parts.size());
        Oracle.Part part = oracle.parts.get(p);
        int[] own = {part.sleep, part.on, part.work};
        int[] best = null;
        for (int i = 0; i < 4096; i++) {
            part.sleep = i >> 8;
            part.on = i >> 4 & 15;
            part.work = i & 15;
            int sum = 0;
            for (int[] row : measured) {
                oracle.ins[0] = row[0];
                oracle.ins[1] = row[1];
                oracle.run(-1);
                sum += Math.abs(oracle.sipped - row[2]);
            }
            if (best == null || sum < best[0]) {
                best = new int[] {sum, part.sleep, part.on, part.work, 0};
            }
            best[4] += sum == best[0] ? 1 : 0;
        }
        part.sleep = own[0];
        part.on = own[1];
        part.work = own[2];
        Check.due("fit", x.fit(p), best[0]);
        for (int what = 0; what < 4; what++) {
            Check.due("fitted(" + what + ")", x.fitted(what), best[1 + what]);
        }
    }

    private static void asks(SipMeter x, Oracle oracle, Random random, int many) {
        List<int[]> asks = new ArrayList<>();
        for (int i = 0; i < many; i++) {
            int[] ask = {random.nextInt(40), 1 + random.nextInt(6), random.nextInt(6)};
            asks.add(ask);
            Check.due("ask", x.ask(ask[0], ask[1], ask[2]), i + 1);
        }
        for (int p = 0; p < oracle.parts.size(); p++) {
            int[] best = Oracle.together(oracle.parts.get(p), asks);
            Check.due("together(" + p + ")", x.together(p), best[0]);
            for (int i = 0; i < many; i++) {
                Check.due("later(" + i + ")", x.later(i), best[2 + i]);
            }
        }
        Check.due("forget", x.forget(), many);
    }
}
