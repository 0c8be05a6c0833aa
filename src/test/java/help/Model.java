import java.nio.charset.StandardCharsets;
import java.util.ArrayList;
import java.util.Arrays;
import java.util.HashMap;
import java.util.List;
import java.util.Map;

/** A whole object told a second time: what stays and what goes from call to call, its answers found by Faults and Oracle. */
final class Model {
    private static final int[] FACTORIAL = {1, 1, 2, 6, 24, 120, 720, 5040, 40320};
    private static final long NO_SHARE = -1000000000000000L;

    /** A MEASURED row: what a RUN of its INPUTS does, and what it sipped. */
    private record Row(int sips, int ran, int[] spent) {
    }

    /** What over() found: the sips and the INPUTS of the greatest, then of the least. */
    private static final class Farthest {
        int[] sips = new int[2];
        int[][] at = new int[2][];
    }

    private final StringBuilder tape = new StringBuilder();
    private Faults faults = new Faults("");
    private boolean noText = true;
    private String source = "";
    private Oracle latest = new Oracle("");
    private boolean hasRun;
    private int[] puts = new int[3];
    private final List<Row> rows = new ArrayList<>();
    private int[] fit;
    private Farthest farthest;
    private int[] where;
    private final List<int[]> asks = new ArrayList<>();
    private int[] later = {};
    private final Map<Long, Map<Integer, Long>> turns = new HashMap<>();
    private int[][] paid;
    private int[] wastes;

    // ---- the text

    int feed(int a, int b, int c, int d, int e) {
        if (tape.length() > 880) {
            return -1;
        }
        for (int n : new int[] {a, b, c, d, e}) {
            byte[] four = {(byte) (n >> 24), (byte) (n >> 16), (byte) (n >> 8), (byte) n};
            tape.append(new String(four, StandardCharsets.ISO_8859_1));
        }
        return tape.length();
    }

    boolean end(int n) {
        if (n < 0 || n > tape.length()) {
            return false;
        }
        tape.setLength(n);
        return true;
    }

    int text() {
        String text = tape.toString();
        tape.setLength(0);
        faults = new Faults(text);
        noText = false;
        if (faults.kind != 0) {
            return -1;
        }
        source = text;
        latest = new Oracle(text);
        puts = latest.ins.clone();
        hasRun = false;
        rows.clear();
        fit = null;
        farthest = null;
        where = null;
        return latest.all.size();
    }

    int fault(int what) {
        return what == 0 ? noText ? 0 : faults.kind : what == 1 && !noText ? faults.place : -1;
    }

    int has(int what) {
        int[] many = {latest.parts.size(), latest.inputs.size(), latest.vars.size(), latest.all.size(), rows.size(), asks.size()};
        return what >= 0 && what < 6 ? many[what] : -1;
    }

    int letter(int kind, int which, int k) {
        if (kind < 0 || kind > 2) {
            return -1;
        }
        List<String> names = kind == 1 ? latest.inputs : kind == 2 ? latest.vars : latest.parts.stream().map(p -> p.name).toList();
        boolean there = which >= 0 && which < names.size() && k >= 0 && k < names.get(which).length();
        return there ? names.get(which).charAt(k) : -1;
    }

    boolean put(int input, int n) {
        if (input < 0 || input >= latest.inputs.size()) {
            return false;
        }
        int[] range = latest.ranges.get(input);
        if (n < range[0] || n > range[1]) {
            return false;
        }
        puts[input] = n;
        return true;
    }

    // ---- runs

    int run(int purse) {
        if (purse < -1) {
            return -2;
        }
        latest.ins = puts.clone();
        latest.run(purse);
        hasRun = true;
        turns.clear();
        paid = new int[][] {latest.pays(0), latest.pays(1)};
        wastes = latest.wasted();
        return latest.outcome;
    }

    int ran(int what) {
        int[] told = {latest.rows.size(), latest.sipped, latest.misses, latest.touches, latest.owns, latest.cutLine};
        return hasRun && what >= 0 && what < 6 ? told[what] : -1;
    }

    int value(int var) {
        return hasRun && var >= 0 && var < latest.vars.size() ? latest.values[var] : -2000000000;
    }

    private boolean isPart(int part) {
        return part >= 0 && part < latest.parts.size();
    }

    private boolean isLine(int line) {
        return line >= 0 && line < latest.all.size();
    }

    int spent(int part, int what) {
        return hasRun && isPart(part) && what >= 0 && what < 4 ? latest.spent(part, what) : -1;
    }

    int pays(int line, int rule) {
        if (!hasRun || rule < 0 || rule > 1 || line != -1 && !isLine(line)) {
            return -1;
        }
        return paid[rule][line == -1 ? 60 : line];
    }

    int stretches(int part) {
        return hasRun && isPart(part) ? latest.stretches(part).size() : -1;
    }

    private int[] stretchOf(int part, int k) {
        if (!hasRun || !isPart(part) || k < 0) {
            return null;
        }
        List<int[]> all = latest.stretches(part);
        return k < all.size() ? all.get(k) : null;
    }

    int stretch(int part, int k, int what) {
        int[] there = stretchOf(part, k);
        if (there == null || what < 0 || what > 2) {
            return -1;
        }
        return what == 2 ? latest.onTicks(part, there) : there[what];
    }

    long lines(int part, int k) {
        int[] there = stretchOf(part, k);
        return there == null ? 0 : latest.lines(part, there);
    }

    long byTurns(int part, int k, int line, boolean above) {
        int[] there = stretchOf(part, k);
        if (there == null || !isLine(line)) {
            return NO_SHARE;
        }
        long bits = latest.lines(part, there);
        int many = Long.bitCount(bits);
        if (many > 8 || (bits >> line & 1) == 0) {
            return NO_SHARE;
        }
        long sum = turns.computeIfAbsent(part * 10000L + k, key -> latest.byTurns(part, there)).get(line);
        long common = java.math.BigInteger.valueOf(sum).gcd(java.math.BigInteger.valueOf(FACTORIAL[many])).longValue();
        return above ? sum / common : FACTORIAL[many] / common;
    }

    int wasted(int line) {
        return hasRun && isLine(line) ? wastes[line] : -1;
    }

    // ---- over all inputs, measured ones

    private Oracle trial(int[] ins) {
        Oracle trial = new Oracle(source);
        trial.ins = ins.clone();
        trial.run(-1);
        return trial;
    }

    int over(boolean greatest) {
        int ways = 1;
        for (int[] range : latest.ranges) {
            ways *= range[1] - range[0] + 1;
        }
        if (ways > 256) {
            return -1;
        }
        if (farthest == null) {
            farthest = new Farthest();
            tryAll(0, new int[3]);
        }
        int which = greatest ? 0 : 1;
        where = farthest.at[which];
        return farthest.sips[which];
    }

    private void tryAll(int input, int[] ins) {
        if (input == latest.inputs.size()) {
            int sips = trial(ins).sipped;
            for (int which = 0; which < 2; which++) {
                boolean farther = farthest.at[which] == null || (which == 0 ? sips > farthest.sips[0] : sips < farthest.sips[1]);
                if (farther) {
                    farthest.sips[which] = sips;
                    farthest.at[which] = ins.clone();
                }
            }
            return;
        }
        for (int n = latest.ranges.get(input)[0]; n <= latest.ranges.get(input)[1]; n++) {
            ins[input] = n;
            tryAll(input + 1, ins);
        }
    }

    int where(int input) {
        return where != null && input >= 0 && input < latest.inputs.size() ? where[input] : -1;
    }

    int measure(int sips) {
        if (sips < 0 || sips > 10000000 || rows.size() == 12) {
            return -1;
        }
        Oracle trial = trial(puts);
        int[] spent = new int[24];
        for (int i = 0; i < 4 * trial.parts.size(); i++) {
            spent[i] = trial.spent(i / 4, i % 4);
        }
        rows.add(new Row(sips, trial.sipped, spent));
        return rows.size();
    }

    int fit(int part) {
        if (!isPart(part) || rows.isEmpty()) {
            return -1;
        }
        Oracle.Part own = latest.parts.get(part);
        int[] best = null;
        for (int i = 0; i < 4096; i++) {
            int[] found = {i >> 8, i >> 4 & 15, i & 15, 0, 0};
            for (Row row : rows) {
                int more = (found[0] - own.sleep) * row.spent[4 * part] + (found[1] - own.on) * row.spent[4 * part + 2]
                    + (found[2] - own.work) * row.spent[4 * part + 3];
                found[4] += Math.abs(row.ran + more - row.sips);
            }
            if (best == null || found[4] < best[4]) {
                best = found;
            }
            best[3] += found[4] == best[4] ? 1 : 0;
        }
        fit = best;
        return best[4];
    }

    int fitted(int what) {
        return fit != null && what >= 0 && what < 4 ? fit[what] : -1;
    }

    // ---- asks, ways, batteries

    int ask(int tick, int ticks, int later) {
        boolean fine = tick >= 0 && tick <= 200 && ticks >= 1 && ticks <= 20 && later >= 0 && later <= 5;
        if (!fine || asks.size() == 6) {
            return -1;
        }
        asks.add(new int[] {tick, ticks, later});
        return asks.size();
    }

    int forget() {
        int there = asks.size();
        asks.clear();
        return there;
    }

    int together(int part) {
        if (!isPart(part) || asks.isEmpty()) {
            return -1;
        }
        int[] best = Oracle.together(latest.parts.get(part), asks);
        later = Arrays.copyOfRange(best, 2, best.length);
        return best[0];
    }

    int later(int i) {
        return i >= 0 && i < later.length ? later[i] : -1;
    }

    int never() {
        return latest.never();
    }

    int lasts(int battery, int runs, int ticks) {
        if (!hasRun || battery < 0 || battery > 1000000000 || runs < 0 || runs > 1000 || ticks < 0 || ticks > 100000) {
            return -1;
        }
        long day = (long) runs * latest.sipped;
        for (Oracle.Part part : latest.parts) {
            day += (long) ticks * part.sleep;
        }
        return day == 0 ? -1 : (int) (battery / day);
    }
}
