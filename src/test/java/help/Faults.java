import java.util.HashMap;
import java.util.List;
import java.util.Map;
import java.util.Set;

/**
 * THE TEXT told a second time, byte by byte, with an exception at the first FAULT: which one it is, where it is, and
 * how many PARTS, INPUTS, VARS and LINES a text without one has.
 */
final class Faults {
    private static final Set<String> OWN = Set.of("heart", "cache", "part", "sleep", "wake", "on", "work", "tail", "input", "var", "set", "use",
        "hold", "free", "wait", "touch", "if", "else", "while", "or", "and", "not", "all", "held", "tick", "min", "max");
    private static final Set<String> ORDERS = Set.of("set", "use", "hold", "free", "wait", "touch", "if", "while");
    private static final Map<String, Integer> KINDS = Map.of("part", 0, "input", 1, "var", 2);
    private static final int[] MOST = {6, 3, 6};

    /** The first FAULT, found deep inside. */
    private static final class Found extends RuntimeException {
        private static final long serialVersionUID = 1L;

        Found() {
            super(null, null, false, false);
        }
    }

    int kind;
    int place = -1;
    final int[] counts = new int[3];
    int lines;
    private final String text;
    private int at;
    private int open;
    private final Map<String, Integer> names = new HashMap<>();

    Faults(String text) {
        this.text = text;
        try {
            while (Set.of("heart", "cache", "part", "input", "var").contains(word())) {
                declare();
            }
            orders();
            if (!word().isEmpty()) {
                fail(1);
            }
        } catch (Found found) {
            lines = -1;
        }
    }

    private void fail(int fault) {
        failAt(fault, at);
    }

    private void failAt(int fault, int where) {
        kind = fault;
        place = where;
        throw new Found();
    }

    private static boolean in(char c, char from, char to) {
        return c >= from && c <= to;
    }

    private char byteAt(int i) {
        return i < text.length() ? text.charAt(i) : 0;
    }

    private static boolean small(char c) {
        return in(c, 'a', 'z');
    }

    private static boolean digit(char c) {
        return in(c, '0', '9');
    }

    /** The WORD, NUMBER or sign that begins behind the blanks here; it is not taken. Nothing at the text's end. */
    private String word() {
        int from = at;
        while (byteAt(at) == ' ' || byteAt(at) == '\n') {
            at++;
        }
        if (at >= text.length()) {
            return "";
        }
        char c = byteAt(at);
        if (!small(c) && !digit(c)) {
            return text.substring(at, at + 1);
        }
        if (at == from && at > 0 && (small(byteAt(at - 1)) || digit(byteAt(at - 1)))) {
            fail(1);
        }
        int end = at;
        while (small(c) ? small(byteAt(end)) : digit(byteAt(end))) {
            end++;
        }
        int most = small(c) ? 6 : 4;
        if (end - at > most) {
            failAt(1, at + most);
        }
        return text.substring(at, end);
    }

    private void skip() {
        at += word().length();
    }

    private boolean is(String wanted) {
        return word().equals(wanted);
    }

    private void need(String wanted) {
        if (!is(wanted)) {
            fail(1);
        }
        skip();
    }

    private boolean took(String wanted) {
        if (is(wanted)) {
            skip();
            return true;
        }
        return false;
    }

    private void needOpen(String sign) {
        if (!is(sign)) {
            fail(1);
        }
        if (open == 8) {
            fail(5);
        }
        open++;
        skip();
    }

    private void needShut(String sign) {
        need(sign);
        open--;
    }

    private int number(int least, int most) {
        String digits = word();
        if (digits.isEmpty() || !digit(digits.charAt(0))) {
            fail(1);
        }
        int n = Integer.parseInt(digits);
        if (n < least || n > most) {
            fail(4);
        }
        skip();
        return n;
    }

    private String name() {
        String name = word();
        if (name.isEmpty() || !small(name.charAt(0)) || OWN.contains(name)) {
            fail(1);
        }
        return name;
    }

    private void newName(String declaration) {
        int which = KINDS.get(declaration);
        if (counts[which] == MOST[which]) {
            fail(5);
        }
        skip();
        String name = name();
        if (names.containsKey(name)) {
            fail(2);
        }
        names.put(name, which);
        counts[which]++;
        skip();
    }

    private void oldName(Set<Integer> kinds) {
        Integer which = names.get(name());
        if (which == null || !kinds.contains(which)) {
            fail(3);
        }
        skip();
    }

    private void declare() {
        String declaration = word();
        switch (declaration) {
            case "heart" -> {
                skip();
                number(0, 999);
            }
            case "cache" -> {
                skip();
                number(1, 8);
                number(1, 8);
                number(0, 20);
            }
            case "part" -> {
                newName(declaration);
                need("sleep");
                number(0, 999);
                need("wake");
                number(0, 20);
                number(0, 999);
                for (String word : List.of("on", "work")) {
                    need(word);
                    number(0, 999);
                }
                need("tail");
                number(0, 50);
            }
            case "input" -> {
                newName(declaration);
                number(number(0, 99), 99);
            }
            default -> newName(declaration);
        }
        need(";");
    }

    private void orders() {
        while (ORDERS.contains(word())) {
            if (lines == 60) {
                fail(5);
            }
            lines++;
            order();
        }
    }

    private void order() {
        String order = word();
        skip();
        switch (order) {
            case "set" -> {
                oldName(Set.of(2));
                need("=");
                sum();
                need(";");
            }
            case "use" -> {
                oldName(Set.of(0));
                sum();
                need(";");
            }
            case "hold", "free" -> {
                oldName(Set.of(0));
                need(";");
            }
            case "wait", "touch" -> {
                sum();
                need(";");
            }
            default -> {
                test();
                block();
                if (order.equals("if") && took("else")) {
                    block();
                }
            }
        }
    }

    private void block() {
        needOpen("{");
        orders();
        needShut("}");
    }

    private void test() {
        do {
            do {
                fact();
            } while (took("and"));
        } while (took("or"));
    }

    private void fact() {
        while (is("not")) {
            skip();
        }
        if (is("[")) {
            needOpen("[");
            test();
            needShut("]");
        } else if (took("held")) {
            oldName(Set.of(0));
        } else if (!took("all")) {
            sum();
            if (!Set.of("<", ">", "=").contains(word())) {
                fail(1);
            }
            skip();
            sum();
        }
    }

    private void sum() {
        do {
            do {
                piece();
            } while (took("*") || took("/") || took("%"));
        } while (took("+") || took("-"));
    }

    private void piece() {
        String word = word();
        if (!word.isEmpty() && digit(word.charAt(0))) {
            number(0, 999);
        } else if (is("(")) {
            needOpen("(");
            sum();
            needShut(")");
        } else if (is("min") || is("max")) {
            skip();
            needOpen("(");
            sum();
            need(",");
            sum();
            needShut(")");
        } else if (!took("tick")) {
            oldName(Set.of(1, 2));
        }
    }
}
