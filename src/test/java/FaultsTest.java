import java.util.ArrayList;
import java.util.List;
import java.util.Random;

/** Random texts in which bytes and words are changed: the first FAULT and its place against those of help/Faults (promises 4 to 6). */
public final class FaultsTest {
    private static final String[] WORDS = {"heart", "cache", "part", "sleep", "wake", "on", "work", "tail", "input", "var", "set", "use", "hold", "free",
        "wait", "touch", "if", "else", "while", "or", "and", "not", "all", "held", "tick", "min", "max", "pa", "pb", "pc", "na", "nb", "va", "vb", "q",
        "abcdef", "abcdefg", "sleeps", "0", "1", "8", "9", "20", "21", "50", "51", "99", "100", "999", "1000", "9999", "00000", "0012", ";", "{", "}",
        "=", "<", ">", "+", "-", "*", "/", "%", "(", ")", "[", "]", ",", "#", "\n", " ", "\t", "A", "\u00ff", "\0", "((((((((", "[[[[[[[[", "(1)", "wait 1;",
        "part x sleep 1 wake 2 3 on 4 work 5 tail 6;", "input y 0 1;", "var z;", "var w;", "if all {", "else {", "use pa 1;", "1a", "a1"};

    public static void main(String[] args) {
        int many = args.length > 0 ? Integer.parseInt(args[0]) : 30000;
        int[] kinds = new int[6];
        for (int seed = 1; seed <= many && !Check.anyWrong(); seed++) {
            Random random = new Random(seed);
            String text = changed(random, random.nextInt(12) == 0 ? crowded(random) : new Texts(seed).make(100 + random.nextInt(600)));
            if (text.length() <= 900) {
                kinds[compare(text)]++;
            }
        }
        System.out.println("texts with FAULTS 0 to 5: " + java.util.Arrays.toString(kinds));
        for (int kind : kinds) {
            Check.due("FAULTS of each kind were met", kind > many / 300, true);
        }
        Check.finish("FaultsTest");
    }

    private static int compare(String text) {
        Faults due = new Faults(text);
        SipMeter x = new SipMeter();
        Check.due("text() of " + text, Check.text(x, text), due.lines);
        Check.due("fault(0) of " + text, x.fault(0), due.kind);
        Check.due("fault(1) of " + text, x.fault(1), due.place);
        for (int what = 0; what < 4; what++) {
            int there = what < 3 ? due.counts[what] : due.lines;
            Check.due("has(" + what + ") of " + text, x.has(what), due.kind == 0 ? there : 0);
        }
        return due.kind;
    }

    /** A text with as many of something as may be, or one more. */
    private static String crowded(Random random) {
        StringBuilder text = new StringBuilder();
        switch (random.nextInt(4)) {
            case 0 -> {
                for (int i = random.nextInt(3) + 5; i > 0; i--) {
                    text.append("part p").append((char) ('a' + i)).append(" sleep 1 wake 2 3 on 4 work 5 tail 6;");
                }
            }
            case 1 -> {
                for (int i = random.nextInt(12); i > 0; i--) {
                    boolean isVar = random.nextInt(3) > 0;
                    int name = random.nextInt(3) == 0 ? random.nextInt(12) : i;
                    text.append(isVar ? "var n" : "input n").append((char) ('a' + name)).append(isVar ? ";" : " 0 1;");
                }
            }
            case 2 -> text.append("var v;").append("wait 1;".repeat(55 + random.nextInt(8))).append(random.nextBoolean() ? "hold p;" : "}");
            default -> {
                text.append("if all{".repeat(random.nextInt(5))).append("if ").append("[".repeat(random.nextInt(5)));
                int open = random.nextInt(4);
                text.append("(".repeat(open)).append("min(1,2)").append(")".repeat(open)).append(" < 3 ] ] {");
            }
        }
        return text.toString();
    }

    private static String changed(Random random, String text) {
        List<String> words = new ArrayList<>();
        java.util.regex.Matcher m = java.util.regex.Pattern.compile("[a-z]+|[0-9]+|\\s+|.").matcher(text);
        while (m.find()) {
            words.add(m.group());
        }
        for (int i = random.nextInt(3); i > 0 && !words.isEmpty(); i--) {
            int k = random.nextInt(words.size());
            String word = WORDS[random.nextInt(WORDS.length)];
            switch (random.nextInt(5)) {
                case 0 -> words.remove(k);
                case 1 -> words.add(k, word);
                case 2 -> words.add(k, " " + word + " ");
                case 3 -> words.set(k, word);
                default -> {
                    while (words.size() > k + 1) {
                        words.remove(words.size() - 1);
                    }
                }
            }
        }
        return String.join("", words);
    }
}
