import java.nio.charset.StandardCharsets;

/** What all tests share: a count of wrong answers, and texts laid on the tape. */
final class Check {
    private static int wrong = 0;
    private static int asked = 0;
    private static int edges = 0;

    private Check() {
    }

    static void due(String what, long got, long want) {
        asked++;
        if (got != want) {
            wrong++;
            if (wrong < 60) {
                System.out.println(what + " answered " + got + ", due is " + want);
            }
        }
    }

    static void due(String what, boolean got, boolean want) {
        due(what, got ? 1L : 0L, want ? 1L : 0L);
    }

    static boolean anyWrong() {
        return wrong > 0;
    }

    /** Ends the test: exit code 1 if an answer was not as due. */
    static void finish(String test) {
        String many = edges > 0 ? ", " + edges + " edges" : "";
        System.out.println(test + ": " + asked + " answers" + many + ", " + wrong + " not as due");
        if (wrong != 0) {
            System.exit(1);
        }
    }

    /** Lays a text on the (empty) tape; it may have 900 bytes at most. */
    static void lay(SipMeter x, String text) {
        byte[] bytes = text.getBytes(StandardCharsets.ISO_8859_1);
        int[] n = new int[5];
        for (int at = 0; at < bytes.length; at += 20) {
            for (int i = 0; i < 5; i++) {
                n[i] = 0;
                for (int j = 0; j < 4; j++) {
                    int k = at + 4 * i + j;
                    n[i] = n[i] << 8 | (k < bytes.length ? bytes[k] & 255 : 32);
                }
            }
            due("feed", x.feed(n[0], n[1], n[2], n[3], n[4]), at + 20);
        }
        due("end", x.end(bytes.length), true);
    }

    static int text(SipMeter x, String text) {
        lay(x, text);
        return x.text();
    }

    /** One boundary case, a test of its own: its name is told if it fails. */
    static void edge(String name, Runnable test) {
        int before = wrong;
        test.run();
        edges++;
        if (wrong != before) {
            System.out.println("FAILED EDGE: " + name);
        }
    }

    /** A text with the mark @ where its FAULT is. */
    static void refused(int kind, String marked) {
        int place = marked.indexOf('@');
        SipMeter x = new SipMeter();
        due("text() of " + marked, text(x, marked.replace("@", "")), -1);
        due("fault(0) of " + marked, x.fault(0), kind);
        due("fault(1) of " + marked, x.fault(1), place);
    }

    /** A new object whose text is this one; it must be without a fault. */
    static SipMeter with(String text, int lines) {
        SipMeter x = new SipMeter();
        due("text() of " + text, text(x, text), lines);
        due("fault(0) of " + text, x.fault(0), 0);
        due("fault(1) of " + text, x.fault(1), -1);
        return x;
    }
}
