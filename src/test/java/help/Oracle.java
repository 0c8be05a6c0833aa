import java.util.ArrayList;
import java.util.Arrays;
import java.util.BitSet;
import java.util.HashMap;
import java.util.HashSet;
import java.util.List;
import java.util.Map;
import java.util.Set;
import java.util.function.IntSupplier;

/**
 * The document told a second time, in the slowest way: each TICK is stepped, each PART's doing in it is kept, and
 * every answer is found from these rows. It reads texts without FAULTS alone.
 */
final class Oracle {
    static final int ASLEEP = 0;
    static final int WAKING = 1;
    static final int ON = 2;
    static final int WORKING = 3;

    static final class Part {
        String name;
        int sleep;
        int wakeTicks;
        int wake;
        int on;
        int work;
        int tail;

        int sips(int doing) {
            return doing == ASLEEP ? sleep : doing == WAKING ? wake : doing == ON ? on : work;
        }
    }

    static final class Line {
        int number;
        String word;
        int about = -1;
        IntSupplier sum;
        List<Line> yes = new ArrayList<>();
        List<Line> no = new ArrayList<>();
    }

    /** Ends a RUN from inside. */
    private static final class Cut extends RuntimeException {
        private static final long serialVersionUID = 1L;
        final int how;

        Cut(int how) {
            super(null, null, false, false);
            this.how = how;
        }
    }

    /** That a LINE used, held or freed a PART when so many TICKS had been. */
    record Act(int part, int line, int at) {
    }

    /** The TICKS in which a PART works, or is held, for a LINE. */
    static final class For {
        int part;
        int line;
        int from;
        int to;
        boolean open;
    }

    int heart = 1;
    int sets = 1;
    int wide = 1;
    int miss = 0;
    final List<Part> parts = new ArrayList<>();
    final List<String> inputs = new ArrayList<>();
    final List<int[]> ranges = new ArrayList<>();
    final List<String> vars = new ArrayList<>();
    final List<Line> all = new ArrayList<>();
    List<Line> program = new ArrayList<>();
    int[] ins = new int[3];

    // ---- the text

    private final List<String> words = new ArrayList<>();
    private int at;

    Oracle(String text) {
        java.util.regex.Matcher m = java.util.regex.Pattern.compile("[a-z]+|[0-9]+|[^\\s]").matcher(text);
        while (m.find()) {
            words.add(m.group());
        }
        words.add("");
        while (Set.of("heart", "cache", "part", "input", "var").contains(words.get(at))) {
            declare(take());
        }
        program = orders();
        for (int i = 0; i < ranges.size(); i++) {
            ins[i] = ranges.get(i)[0];
        }
    }

    private String take() {
        return words.get(at++);
    }

    private boolean took(String word) {
        if (words.get(at).equals(word)) {
            at++;
            return true;
        }
        return false;
    }

    private int number() {
        return Integer.parseInt(take());
    }

    private void declare(String word) {
        switch (word) {
            case "heart" -> heart = number();
            case "cache" -> {
                sets = number();
                wide = number();
                miss = number();
            }
            case "part" -> {
                Part p = new Part();
                p.name = take();
                take();
                p.sleep = number();
                take();
                p.wakeTicks = number();
                p.wake = number();
                take();
                p.on = number();
                take();
                p.work = number();
                take();
                p.tail = number();
                parts.add(p);
            }
            case "input" -> {
                inputs.add(take());
                ranges.add(new int[] {number(), number()});
            }
            default -> vars.add(take());
        }
        take();
    }

    private int partNamed(String name) {
        for (int i = 0; i < parts.size(); i++) {
            if (parts.get(i).name.equals(name)) {
                return i;
            }
        }
        throw new IllegalStateException(name);
    }

    private List<Line> orders() {
        List<Line> row = new ArrayList<>();
        while (!words.get(at).isEmpty() && !words.get(at).equals("}")) {
            Line line = new Line();
            line.number = all.size();
            line.word = take();
            all.add(line);
            row.add(line);
            switch (line.word) {
                case "set" -> {
                    line.about = vars.indexOf(take());
                    take();
                    line.sum = sum();
                    take();
                }
                case "use" -> {
                    line.about = partNamed(take());
                    line.sum = sum();
                    take();
                }
                case "hold", "free" -> {
                    line.about = partNamed(take());
                    take();
                }
                case "wait", "touch" -> {
                    line.sum = sum();
                    take();
                }
                default -> {
                    line.sum = test();
                    take();
                    line.yes = orders();
                    take();
                    if (line.word.equals("if") && took("else")) {
                        take();
                        line.no = orders();
                        take();
                    }
                }
            }
        }
        return row;
    }

    private IntSupplier test() {
        IntSupplier left = both();
        while (took("or")) {
            IntSupplier a = left;
            IntSupplier b = both();
            left = () -> a.getAsInt() != 0 || b.getAsInt() != 0 ? 1 : 0;
        }
        return left;
    }

    private IntSupplier both() {
        IntSupplier left = fact();
        while (took("and")) {
            IntSupplier a = left;
            IntSupplier b = fact();
            left = () -> a.getAsInt() != 0 && b.getAsInt() != 0 ? 1 : 0;
        }
        return left;
    }

    private IntSupplier fact() {
        if (took("not")) {
            IntSupplier a = fact();
            return () -> a.getAsInt() == 0 ? 1 : 0;
        }
        if (took("[")) {
            IntSupplier a = test();
            take();
            return a;
        }
        if (took("all")) {
            return () -> 1;
        }
        if (took("held")) {
            int p = partNamed(take());
            return () -> held[p] ? 1 : 0;
        }
        IntSupplier a = sum();
        String sign = take();
        IntSupplier b = sum();
        return () -> {
            int c = Integer.compare(a.getAsInt(), b.getAsInt());
            return (sign.equals("<") ? c < 0 : sign.equals(">") ? c > 0 : c == 0) ? 1 : 0;
        };
    }

    private static int bounded(long n) {
        return n > 1000000 ? 1000000 : n < -1000000 ? -1000000 : (int) n;
    }

    private IntSupplier sum() {
        IntSupplier left = product();
        while (words.get(at).equals("+") || words.get(at).equals("-")) {
            boolean plus = take().equals("+");
            IntSupplier a = left;
            IntSupplier b = product();
            left = () -> bounded(plus ? a.getAsInt() + b.getAsInt() : a.getAsInt() - b.getAsInt());
        }
        return left;
    }

    private IntSupplier product() {
        IntSupplier left = piece();
        while (Set.of("*", "/", "%").contains(words.get(at))) {
            String sign = take();
            IntSupplier a = left;
            IntSupplier b = piece();
            left = () -> {
                long x = a.getAsInt();
                long y = b.getAsInt();
                if (sign.equals("*")) {
                    return bounded(x * y);
                }
                if (y == 0) {
                    return 0;
                }
                long whole = x / y;
                if (whole * y != x && (x < 0) != (y < 0)) {
                    whole--;
                }
                return (int) (sign.equals("/") ? whole : x - whole * y);
            };
        }
        return left;
    }

    private IntSupplier piece() {
        String word = take();
        if (word.equals("(")) {
            IntSupplier a = sum();
            take();
            return a;
        }
        if (word.equals("min") || word.equals("max")) {
            take();
            IntSupplier a = sum();
            take();
            IntSupplier b = sum();
            take();
            return () -> word.equals("min") ? Math.min(a.getAsInt(), b.getAsInt()) : Math.max(a.getAsInt(), b.getAsInt());
        }
        if (word.equals("tick")) {
            return () -> rows.size();
        }
        if (Character.isDigit(word.charAt(0))) {
            int n = Integer.parseInt(word);
            return () -> n;
        }
        int input = inputs.indexOf(word);
        if (input >= 0) {
            return () -> ins[input];
        }
        int var = vars.indexOf(word);
        return () -> values[var];
    }

    // ---- a RUN

    /** What each PART does in each TICK. */
    List<int[]> rows = new ArrayList<>();
    List<Integer> doneBy = new ArrayList<>();
    List<int[]> lastBy = new ArrayList<>();
    List<Act> acts = new ArrayList<>();
    List<For> fors = new ArrayList<>();
    int[] values = new int[6];
    boolean[] held = new boolean[6];
    int[] tail = new int[6];
    int[] last = new int[6];
    int[] kept = new int[8];
    boolean[] amid = new boolean[6];
    long purse;
    int outcome;
    int cutLine;
    int sipped;
    int misses;
    int touches;
    int owns;
    int lineTicks;
    private int current;

    int run(int withPurse) {
        rows = new ArrayList<>();
        doneBy = new ArrayList<>();
        lastBy = new ArrayList<>();
        acts = new ArrayList<>();
        fors = new ArrayList<>();
        values = new int[6];
        held = new boolean[6];
        tail = new int[6];
        last = new int[6];
        Arrays.fill(last, -1);
        kept = new int[8];
        Arrays.fill(kept, -1);
        amid = new boolean[6];
        purse = withPurse < 0 ? Long.MAX_VALUE : withPurse;
        outcome = 0;
        cutLine = -1;
        sipped = 0;
        misses = 0;
        touches = 0;
        owns = 0;
        try {
            doAll(program);
        } catch (Cut cut) {
            outcome = cut.how;
            cutLine = current;
        }
        lineTicks = rows.size();
        while (outcome == 0 && anyTail()) {
            tick(-1, ASLEEP, false);
        }
        for (For f : fors) {
            if (f.open) {
                f.to = rows.size();
            }
        }
        return outcome;
    }

    private boolean anyTail() {
        for (int p = 0; p < parts.size(); p++) {
            if (!held[p] && tail[p] > 0) {
                return true;
            }
        }
        return false;
    }

    private void tick(int busy, int doing, boolean inLine) {
        int[] row = new int[parts.size()];
        int sips = inLine ? heart : 0;
        for (int p = 0; p < row.length; p++) {
            row[p] = p == busy ? doing : held[p] || tail[p] > 0 ? ON : ASLEEP;
            sips += parts.get(p).sips(row[p]);
        }
        if (inLine) {
            if (rows.size() == 2000) {
                throw new Cut(1);
            }
            if (sips > purse) {
                throw new Cut(2);
            }
            purse -= sips;
        }
        sipped += sips;
        for (int p = 0; p < row.length; p++) {
            if (row[p] == ON && !held[p]) {
                tail[p]--;
            }
        }
        rows.add(row);
        doneBy.add(inLine ? current : -1);
        lastBy.add(last.clone());
    }

    private void doAll(List<Line> row) {
        for (Line line : row) {
            if (line.word.equals("while")) {
                while (looked(line)) {
                    doAll(line.yes);
                }
            } else if (line.word.equals("if")) {
                doAll(looked(line) ? line.yes : line.no);
            } else {
                own(line);
                doOne(line);
            }
        }
    }

    private void own(Line line) {
        current = line.number;
        tick(-1, ASLEEP, true);
        owns++;
    }

    private boolean looked(Line line) {
        own(line);
        return line.sum.getAsInt() != 0;
    }

    private void doOne(Line line) {
        int p = line.about;
        switch (line.word) {
            case "set" -> values[p] = line.sum.getAsInt();
            case "use" -> use(line, Math.max(0, Math.min(50, line.sum.getAsInt())));
            case "hold" -> hold(line);
            case "free" -> {
                if (held[p]) {
                    held[p] = false;
                    tail[p] = parts.get(p).tail;
                    acts.add(new Act(p, line.number, rows.size()));
                    last[p] = line.number;
                    for (For f : fors) {
                        if (f.part == p && f.open) {
                            f.open = false;
                            f.to = rows.size();
                        }
                    }
                }
            }
            case "wait" -> {
                int n = Math.max(0, Math.min(100, line.sum.getAsInt()));
                for (int i = 0; i < n; i++) {
                    tick(-1, ASLEEP, true);
                }
            }
            default -> {
                int word = ((line.sum.getAsInt() % 1000) + 1000) % 1000;
                touches++;
                int block = word / wide;
                if (kept[block % sets] != block) {
                    kept[block % sets] = block;
                    misses++;
                    for (int i = 0; i < miss; i++) {
                        tick(-1, ASLEEP, true);
                    }
                }
            }
        }
    }

    private void use(Line line, int ticks) {
        int p = line.about;
        int wakes = held[p] || tail[p] > 0 ? 0 : parts.get(p).wakeTicks;
        Act act = new Act(p, line.number, rows.size());
        For f = new For();
        f.part = p;
        f.line = line.number;
        for (int i = 0; i < wakes + ticks; i++) {
            tick(p, i < wakes ? WAKING : WORKING, true);
            if (i == 0) {
                begin(act);
            }
            if (i >= wakes) {
                if (i == wakes) {
                    f.from = rows.size() - 1;
                    fors.add(f);
                }
                f.to = rows.size();
            }
        }
        if (wakes + ticks == 0) {
            begin(act);
        }
        if (ticks == 0) {
            f.from = rows.size();
            f.to = rows.size();
            fors.add(f);
        }
        amid[p] = false;
        tail[p] = parts.get(p).tail;
    }

    private void begin(Act act) {
        acts.add(act);
        last[act.part()] = act.line();
        amid[act.part()] = true;
    }

    private void hold(Line line) {
        int p = line.about;
        if (held[p]) {
            return;
        }
        int wakes = tail[p] > 0 ? 0 : parts.get(p).wakeTicks;
        Act act = new Act(p, line.number, rows.size());
        for (int i = 0; i < wakes; i++) {
            tick(p, WAKING, true);
            if (i == 0) {
                begin(act);
            }
        }
        if (wakes == 0) {
            begin(act);
        }
        amid[p] = false;
        held[p] = true;
        For f = new For();
        f.part = p;
        f.line = line.number;
        f.from = rows.size();
        f.open = true;
        fors.add(f);
    }

    // ---- what is asked of it

    int spent(int part, int doing) {
        int n = 0;
        for (int[] row : rows) {
            n += row[part] == doing ? 1 : 0;
        }
        return n;
    }

    /** First TICK and the one behind the last one. */
    List<int[]> stretches(int part) {
        List<int[]> found = new ArrayList<>();
        int from = -1;
        for (int t = 0; t <= rows.size(); t++) {
            boolean up = t < rows.size() && rows.get(t)[part] != ASLEEP;
            if (up && from < 0) {
                from = t;
            }
            if (!up && from >= 0) {
                found.add(new int[] {from, t});
                from = -1;
            }
        }
        return found;
    }

    int onTicks(int part, int[] stretch) {
        int n = 0;
        for (int t = stretch[0]; t < stretch[1]; t++) {
            n += rows.get(t)[part] == ON ? 1 : 0;
        }
        return n;
    }

    /** A LINE's own TICK is the one ahead of its act. */
    long lines(int part, int[] stretch) {
        long bits = 0;
        for (Act act : acts) {
            boolean ahead = act.at() == stretch[0];
            boolean inside = act.at() - 1 >= stretch[0] && act.at() - 1 < stretch[1];
            if (act.part() == part && (ahead || inside)) {
                bits |= 1L << act.line();
            }
        }
        return bits;
    }

    int[] pays(int rule) {
        int[] sums = new int[61];
        for (int t = 0; t < rows.size(); t++) {
            int line = doneBy.get(t);
            if (line >= 0) {
                sums[line] += heart;
            }
            for (int p = 0; p < parts.size(); p++) {
                int doing = rows.get(t)[p];
                int sips = parts.get(p).sips(doing);
                if (doing == ASLEEP) {
                    sums[60] += sips;
                } else if (doing != ON) {
                    sums[line] += sips;
                } else if (rule == 0) {
                    sums[lastBy.get(t)[p]] += sips;
                }
            }
        }
        for (int p = 0; p < parts.size() && rule == 1; p++) {
            for (int[] stretch : stretches(p)) {
                shareOut(sums, onTicks(p, stretch) * parts.get(p).on, lines(p, stretch));
            }
        }
        return sums;
    }

    private static void shareOut(int[] sums, int sips, long lines) {
        int many = Long.bitCount(lines);
        int extra = sips - sips / many * many;
        for (int line = 0; line < 60; line++) {
            if ((lines >> line & 1) == 1) {
                sums[line] += sips / many + (extra > 0 ? 1 : 0);
                extra--;
            }
        }
    }

    int[] wasted() {
        int[] sums = new int[60];
        for (int p = 0; p < parts.size(); p++) {
            for (int[] stretch : stretches(p)) {
                boolean atEnd = stretch[1] == rows.size();
                if (atEnd && (held[p] || tail[p] > 0 || amid[p])) {
                    continue;
                }
                int by = -1;
                for (Act act : acts) {
                    if (act.part() == p && act.at() <= stretch[1]) {
                        by = act.line();
                    }
                }
                for (int t = Math.max(stretch[0], stretch[1] - parts.get(p).tail); t < stretch[1]; t++) {
                    sums[by] += rows.get(t)[p] == ON ? parts.get(p).on : 0;
                }
            }
        }
        return sums;
    }

    static int cost(BitSet ticks, Part part) {
        int rowsOf = 0;
        for (int t = ticks.nextSetBit(0); t >= 0; t = ticks.nextSetBit(t + 1)) {
            rowsOf += t == 0 || !ticks.get(t - 1) ? 1 : 0;
        }
        return ticks.cardinality() * part.on + rowsOf * part.wakeTicks * part.wake;
    }

    private int costOf(long set, int p, int[] stretch, Map<Long, Integer> known) {
        Integer there = known.get(set);
        if (there != null) {
            return there;
        }
        BitSet ticks = new BitSet();
        for (For f : fors) {
            if (f.part == p && (set >> f.line & 1) == 1 && f.from >= stretch[0] && f.from < stretch[1]) {
                for (int t = f.from; t < Math.min(f.to + parts.get(p).tail, stretch[1]); t++) {
                    ticks.set(t);
                }
            }
        }
        int cost = cost(ticks, parts.get(p));
        known.put(set, cost);
        return cost;
    }

    /** What each LINE pays by TURNS, over all orders one by one; through n! */
    Map<Integer, Long> byTurns(int p, int[] stretch) {
        List<Integer> users = new ArrayList<>();
        long bits = lines(p, stretch);
        for (int line = 0; line < 60; line++) {
            if ((bits >> line & 1) == 1) {
                users.add(line);
            }
        }
        Map<Integer, Long> sums = new HashMap<>();
        for (int line : users) {
            sums.put(line, 0L);
        }
        comeInAllOrders(users, 0, 0L, p, stretch, new HashMap<>(), sums);
        return sums;
    }

    private void comeInAllOrders(List<Integer> row, int k, long set, int p, int[] stretch,
            Map<Long, Integer> known, Map<Integer, Long> sums) {
        if (k == row.size()) {
            long come = 0;
            for (int line : row) {
                long more = costOf(come | 1L << line, p, stretch, known) - costOf(come, p, stretch, known);
                sums.merge(line, more, Long::sum);
                come |= 1L << line;
            }
            return;
        }
        for (int i = k; i < row.size(); i++) {
            java.util.Collections.swap(row, k, i);
            comeInAllOrders(row, k + 1, set, p, stretch, known, sums);
            java.util.Collections.swap(row, k, i);
        }
    }

    /** The PARTS held at the end on some way: all pairs of a place and what is held there are gone through. */
    int never() {
        Set<Integer> heldSets = new HashSet<>(Set.of(0));
        int bits = 0;
        for (int set : ways(program, heldSets)) {
            bits |= set;
        }
        return bits;
    }

    private Set<Integer> ways(List<Line> row, Set<Integer> in) {
        Set<Integer> now = in;
        for (Line line : row) {
            Set<Integer> next = new HashSet<>();
            switch (line.word) {
                case "hold" -> {
                    for (int set : now) {
                        next.add(set | 1 << line.about);
                    }
                }
                case "free" -> {
                    for (int set : now) {
                        next.add(set & ~(1 << line.about));
                    }
                }
                case "if" -> {
                    next.addAll(ways(line.yes, now));
                    next.addAll(ways(line.no, now));
                }
                case "while" -> {
                    next.addAll(now);
                    while (next.addAll(ways(line.yes, next))) {
                        continue;
                    }
                }
                default -> next.addAll(now);
            }
            now = next;
        }
        return now;
    }

    /** The least cost, the shifts that have it. */
    static int[] together(Part part, List<int[]> asks) {
        int[] best = null;
        int n = asks.size();
        int[] shift = new int[n];
        while (true) {
            BitSet ticks = new BitSet();
            int sum = 0;
            for (int i = 0; i < n; i++) {
                int from = asks.get(i)[0] + shift[i];
                ticks.set(from, from + asks.get(i)[1] + part.tail);
                sum += shift[i];
            }
            int cost = cost(ticks, part);
            if (best == null || cost < best[0] || cost == best[0] && sum < best[1]) {
                best = new int[n + 2];
                best[0] = cost;
                best[1] = sum;
                System.arraycopy(shift, 0, best, 2, n);
            }
            int i = n - 1;
            while (i >= 0 && shift[i] == asks.get(i)[2]) {
                shift[i--] = 0;
            }
            if (i < 0) {
                return best;
            }
            shift[i]++;
        }
    }
}
