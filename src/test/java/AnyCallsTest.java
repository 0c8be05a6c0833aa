import java.util.Random;

/** Any calls with any arguments in any state: none may throw, and the dearest ones must leave room. */
public final class AnyCallsTest {
    private static final int[] EDGES = {-2147483648, -1000000, -3, -2, -1, 0, 1, 2, 3, 4, 5, 6, 7, 8, 9, 11, 12, 15, 20, 50, 59, 60, 61, 63, 64,
        99, 100, 200, 256, 900, 999, 1000, 2000, 100000, 10000000, 1000000000, 2147483647};
    private static Random random;

    public static void main(String[] args) {
        for (int seed = 1; seed <= 400; seed++) {
            random = new Random(seed);
            SipMeter x = new SipMeter();
            for (int call = 0; call < 512; call++) {
                if (random.nextInt(30) == 0) {
                    anyText(x, seed * 1000L + call);
                } else {
                    anyCall(x);
                }
            }
        }
        room();
        Check.finish("AnyCallsTest");
    }

    private static int any() {
        if (random.nextInt(3) > 0) {
            return random.nextInt(9) - 1;
        }
        return random.nextInt(5) == 0 ? random.nextInt() : EDGES[random.nextInt(EDGES.length)];
    }

    /** A text without FAULTS, or one in which some bytes are others. */
    private static void anyText(SipMeter x, long seed) {
        x.end(0);
        StringBuilder text = new StringBuilder(new Texts(seed).make(100 + random.nextInt(700)));
        if (random.nextInt(2) == 0) {
            String bytes = "aehlnopstuvw0129 \n;{}=<>+-*/%()[],#\u00ff";
            for (int i = random.nextInt(4); i >= 0; i--) {
                text.setCharAt(random.nextInt(text.length()), bytes.charAt(random.nextInt(bytes.length())));
            }
        }
        text.setLength(Math.min(text.length(), random.nextInt(8) == 0 ? random.nextInt(900) : 900));
        int length = text.length();
        int lines = Check.text(x, text.toString());
        int place = x.fault(1);
        Check.due("a FAULT or LINES", lines == -1, x.fault(0) != 0);
        Check.due("a FAULT is 0 .. 5", x.fault(0) >= 0 && x.fault(0) <= 5, true);
        Check.due("its place is in the text", lines == -1 ? place >= 0 && place <= length : place == -1, true);
        Check.due("the text is the text", lines == -1 || lines == x.has(3), true);
    }

    private static void anyCall(SipMeter x) {
        int a = any();
        int b = any();
        int c = any();
        boolean d = random.nextBoolean();
        switch (random.nextInt(29)) {
            case 0 -> x.feed(a, b, c, a, b);
            case 1 -> x.end(a);
            case 2 -> x.text();
            case 3 -> x.fault(a);
            case 4 -> x.has(a);
            case 5 -> x.letter(a, b, c);
            case 6 -> x.put(a, b);
            case 7, 8 -> x.run(a < 0 ? a : random.nextInt(3000));
            case 9 -> x.ran(a);
            case 10 -> x.value(a);
            case 11 -> x.spent(a, b);
            case 12 -> x.pays(a, b);
            case 13 -> x.stretches(a);
            case 14 -> x.stretch(a, b, c);
            case 15 -> x.lines(a, b);
            case 16 -> x.byTurns(a, b, c, d);
            case 17 -> x.wasted(a);
            case 18 -> x.over(d);
            case 19 -> x.where(a);
            case 20 -> x.measure(a);
            case 21 -> x.fit(a);
            case 22 -> x.fitted(a);
            case 23 -> x.ask(a, b, c);
            case 24 -> x.forget();
            case 25 -> x.together(a);
            case 26 -> x.later(a);
            case 27 -> x.never();
            default -> x.lasts(a, b, c);
        }
    }

    /** 512 of the dearest calls may take but little: bytes are counted, as elements can't be. */
    private static void room() {
        String text = "part a sleep 1 wake 0 0 on 1 work 1 tail 0;part b sleep 1 wake 0 1 on 1 work 1 tail 0;"
            + "input n 0 15;input m 0 15;while all { use a 0; hold b; free b; }";
        com.sun.management.ThreadMXBean threads =
            (com.sun.management.ThreadMXBean) java.lang.management.ManagementFactory.getThreadMXBean();
        long before = threads.getThreadAllocatedBytes(Thread.currentThread().getId());
        SipMeter x = new SipMeter();
        long made = threads.getThreadAllocatedBytes(Thread.currentThread().getId());
        Check.due("text", Check.text(x, text), 4);
        for (int i = 0; i < 6; i++) {
            Check.due("ask", x.ask(i, 3, 5), i + 1);
        }
        long start = threads.getThreadAllocatedBytes(Thread.currentThread().getId());
        for (int i = 0; i < 60; i++) {
            x.run(i % 2 == 0 ? -1 : 10000);
            x.over(true);
            x.measure(5);
            x.fit(0);
            x.together(0);
            x.byTurns(1, 0, 3, true);
            x.never();
        }
        long end = threads.getThreadAllocatedBytes(Thread.currentThread().getId());
        System.out.println("a new object takes " + (made - before) + " bytes, its dearest calls " + (end - start));
        Check.due("a new object is small", made - before < 60000, true);
        Check.due("the dearest calls take little", end - start < 400000, true);
    }
}
