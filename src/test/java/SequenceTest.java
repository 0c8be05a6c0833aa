import java.nio.charset.StandardCharsets;
import java.util.ArrayList;
import java.util.List;
import java.util.Random;

/** Random calls in any order on one object, over several texts: what stays and what goes, against help/Model (promises 1 to 29). */
public final class SequenceTest {
    private static final int CALLS = 512;
    private static final int[] EDGES = {-2147483648, -1000000, -3, -2, -1, 0, 1, 2, 3, 5, 6, 8, 12, 20, 50, 59, 60, 61, 64, 100, 200, 900, 1000,
        100000, 100001, 10000000, 10000001, 1000000000, 1000000001, 2147483647};
    private static Random random;
    private static SipMeter x;
    private static Model m;
    private static int calls;
    private static String where;
    private static final int[] met = new int[31];

    public static void main(String[] args) {
        int many = args.length > 0 ? Integer.parseInt(args[0]) : 400;
        int texts = 0;
        int refused = 0;
        for (int seed = 1; seed <= many && !Check.anyWrong(); seed++) {
            random = new Random(seed);
            x = new SipMeter();
            m = new Model();
            calls = 0;
            while (calls < CALLS && !Check.anyWrong()) {
                where = "seed " + seed + ", call " + calls + ": ";
                if (random.nextInt(60) == 0) {
                    anyText();
                    texts++;
                    refused += m.fault(0) == 0 ? 0 : 1;
                } else {
                    anyCall();
                }
            }
        }
        System.out.println(texts + " texts, " + refused + " of them refused; answers of each promise that told something: "
            + java.util.Arrays.toString(met));
        for (int promise = 2; promise < 30; promise++) {
            Check.due("promise " + promise + " told something", met[promise] > many / 20, true);
        }
        Check.finish("SequenceTest");
    }

    private static void due(int promise, String call, long got, long want) {
        Check.due(where + call, got, want);
        met[promise] += want > 0 ? 1 : 0;
        calls++;
    }

    /** Mostly what is there, now and then an edge or any number. */
    private static int any(int most) {
        int what = random.nextInt(20);
        return what > 2 ? random.nextInt(most + 1) : what > 0 ? EDGES[random.nextInt(EDGES.length)] : random.nextInt();
    }

    private static void anyText() {
        if (random.nextInt(4) > 0) {
            due(3, "end(0)", x.end(0) ? 1 : 0, m.end(0) ? 1 : 0);
        }
        byte[] bytes = changed(made()).getBytes(StandardCharsets.ISO_8859_1);
        for (int at = 0; at < bytes.length; at += 20) {
            int[] n = new int[5];
            for (int k = 0; k < 20; k++) {
                n[k / 4] = n[k / 4] << 8 | (at + k < bytes.length ? bytes[at + k] & 255 : 32);
            }
            due(2, "feed", x.feed(n[0], n[1], n[2], n[3], n[4]), m.feed(n[0], n[1], n[2], n[3], n[4]));
        }
        if (random.nextInt(3) == 0) {
            due(3, "end", x.end(bytes.length) ? 1 : 0, m.end(bytes.length) ? 1 : 0);
        }
        due(4, "text()", x.text(), m.text());
        due(5, "fault(0)", x.fault(0), m.fault(0));
        due(5, "fault(1)", x.fault(1), m.fault(1));
    }

    private static String made() {
        int what = random.nextInt(12);
        if (what == 0) {
            return "";
        }
        if (what == 1) {
            return "part a sleep 0 wake 2 3 on 1 work 4 tail 2;input n 0 1;input k 3 3;input m 0 " + random.nextInt(4) + "0;use a m+n;hold a;wait m;";
        }
        return new Texts(random.nextInt(1000000)).make(60 + random.nextInt(300));
    }

    private static String changed(String text) {
        if (random.nextInt(3) > 0 || text.isEmpty()) {
            return text;
        }
        List<String> words = new ArrayList<>(List.of(text.split("(?<= )")));
        int k = random.nextInt(words.size());
        switch (random.nextInt(3)) {
            case 0 -> words.remove(k);
            case 1 -> words.add(k, words.get(random.nextInt(words.size())));
            default -> words.set(k, "#");
        }
        return String.join("", words);
    }

    private static void anyCall() {
        switch (random.nextInt(8)) {
            case 0 -> ofTheText();
            case 1 -> runs();
            case 2, 3 -> ofTheRun();
            case 4 -> ofStretches();
            case 5 -> ofInputs();
            case 6 -> ofAsks();
            default -> others();
        }
    }

    private static void ofTheText() {
        int a = any(6);
        int b = any(2);
        int c = any(2);
        switch (random.nextInt(4)) {
            case 0 -> due(5, "fault(" + a % 3 + ")", x.fault(a % 3), m.fault(a % 3));
            case 1 -> due(6, "has(" + a + ")", x.has(a), m.has(a));
            case 2 -> due(7, "letter(" + b + ", " + c + ", " + a + ")", x.letter(b, c, a), m.letter(b, c, a));
            default -> due(3, "end(" + a + ")", x.end(a) ? 1 : 0, m.end(a) ? 1 : 0);
        }
    }

    private static void runs() {
        int input = any(2);
        int n = any(9);
        due(8, "put(" + input + ", " + n + ")", x.put(input, n) ? 1 : 0, m.put(input, n) ? 1 : 0);
        int purse = random.nextInt(3) == 0 ? any(2000) : random.nextInt(5) == 0 ? -2 : -1;
        due(9, "run(" + purse + ")", x.run(purse), m.run(purse));
    }

    private static void ofTheRun() {
        int part = any(3);
        int line = any(20) - 1;
        int what = any(5);
        switch (random.nextInt(5)) {
            case 0 -> due(10, "ran(" + what + ")", x.ran(what), m.ran(what));
            case 1 -> due(11, "value(" + part + ")", x.value(part), m.value(part));
            case 2 -> due(12, "spent(" + part + ", " + what + ")", x.spent(part, what), m.spent(part, what));
            case 3 -> due(13, "pays(" + line + ", " + what % 3 + ")", x.pays(line, what % 3), m.pays(line, what % 3));
            default -> due(18, "wasted(" + line + ")", x.wasted(line), m.wasted(line));
        }
    }

    private static void ofStretches() {
        int part = any(2);
        int k = any(3);
        long bits = m.lines(part, k);
        int line = bits == 0 || random.nextInt(4) == 0 ? any(20) : Long.numberOfTrailingZeros(bits);
        boolean above = random.nextBoolean();
        switch (random.nextInt(5)) {
            case 0 -> due(14, "stretches(" + part + ")", x.stretches(part), m.stretches(part));
            case 1 -> due(15, "stretch(" + part + ", " + k + ", " + k + ")", x.stretch(part, k, k), m.stretch(part, k, k));
            case 2 -> due(16, "lines(" + part + ", " + k + ")", x.lines(part, k), bits);
            default -> due(17, "byTurns(" + part + ", " + k + ", " + line + ", " + above + ")", x.byTurns(part, k, line, above),
                m.byTurns(part, k, line, above));
        }
    }

    private static void ofInputs() {
        int a = any(2);
        int sips = any(3000);
        boolean greatest = random.nextBoolean();
        switch (random.nextInt(7)) {
            case 0 -> due(19, "over(" + greatest + ")", x.over(greatest), m.over(greatest));
            case 1, 2 -> due(20, "where(" + a + ")", x.where(a), m.where(a));
            case 3 -> due(21, "measure(" + sips + ")", x.measure(sips), m.measure(sips));
            case 4 -> due(22, "fit(" + a + ")", x.fit(a), m.fit(a));
            default -> due(23, "fitted(" + sips % 5 + ")", x.fitted(sips % 5), m.fitted(sips % 5));
        }
    }

    private static void ofAsks() {
        int a = any(40);
        int b = any(8);
        int c = any(3);
        switch (random.nextInt(6)) {
            case 0, 1 -> due(24, "ask(" + a + ", " + b + ", " + c + ")", x.ask(a, b, c), m.ask(a, b, c));
            case 2 -> {
                if (random.nextInt(3) == 0) {
                    due(25, "forget()", x.forget(), m.forget());
                }
            }
            case 3 -> due(26, "together(" + c + ")", x.together(c), m.together(c));
            default -> due(27, "later(" + b + ")", x.later(b), m.later(b));
        }
    }

    private static void others() {
        int battery = any(1000000);
        int runs = any(1000);
        int ticks = any(1000);
        switch (random.nextInt(4)) {
            case 0 -> due(28, "never()", x.never(), m.never());
            case 1 -> {
                int n = random.nextInt();
                due(2, "feed(" + n + ")", x.feed(n, 1, 2, 3, n), m.feed(n, 1, 2, 3, n));
            }
            default -> due(29, "lasts(" + battery + ", " + runs + ", " + ticks + ")", x.lasts(battery, runs, ticks), m.lasts(battery, runs, ticks));
        }
    }
}
