import java.util.Random;

/** Makes texts without FAULTS, out of a seed. */
final class Texts {
    private final Random random;
    private final StringBuilder out = new StringBuilder();
    private int parts;
    private int inputs;
    private int vars;
    private int lines;
    private int open;

    Texts(long seed) {
        random = new Random(seed);
    }

    private int upTo(int n) {
        return random.nextInt(n + 1);
    }

    private void say(Object... words) {
        for (Object word : words) {
            out.append(word).append(random.nextInt(8) == 0 ? "\n " : " ");
        }
    }

    private static String name(String kind, int i) {
        return kind + (char) ('a' + i);
    }

    String make(int most) {
        if (upTo(2) > 0) {
            say("heart", upTo(3), ";");
        }
        if (upTo(2) > 0) {
            say("cache", 1 + upTo(7), 1 + upTo(7), upTo(3) == 0 ? 20 : upTo(4), ";");
        }
        parts = upTo(9) == 0 ? 4 + upTo(2) : 1 + upTo(2);
        for (int i = 0; i < parts; i++) {
            int tail = upTo(3) == 0 ? 0 : upTo(4) == 0 ? 50 : upTo(9);
            int wakes = upTo(3) == 0 ? 0 : upTo(5);
            say("part", name("p", i), "sleep", upTo(2), "wake", wakes, upTo(20), "on", upTo(15), "work", upTo(20), "tail", tail, ";");
        }
        inputs = upTo(2);
        for (int i = 0; i < inputs; i++) {
            int least = upTo(5);
            say("input", name("n", i), least, least + upTo(6), ";");
        }
        vars = upTo(9) == 0 ? 6 : upTo(2);
        for (int i = 0; i < vars; i++) {
            say("var", name("v", i), ";");
        }
        while (out.length() < most && lines < 50) {
            order(most);
        }
        return out.toString();
    }

    private void order(int most) {
        lines++;
        int what = upTo(13);
        if (what >= 12 && vars == 0 || what >= 9 && (open >= 5 || out.length() > most - 60 || lines > 45)) {
            what = upTo(8);
        }
        String part = name("p", upTo(parts - 1));
        switch (what) {
            case 0, 1, 2, 3 -> {
                say("use", part);
                small();
                say(";");
            }
            case 4, 5 -> say("hold", part, ";");
            case 6 -> say("free", part, ";");
            case 7 -> {
                say("wait");
                small();
                say(";");
            }
            case 8 -> {
                say("touch");
                sum(2);
                say(";");
            }
            case 9, 10 -> {
                say("if");
                test(2);
                block(most);
                if (upTo(1) == 0) {
                    say("else");
                    block(most);
                }
            }
            case 11 -> {
                say("while");
                if (upTo(5) == 0) {
                    test(2);
                } else {
                    say("tick", "<", 20 + upTo(60));
                }
                block(most);
            }
            default -> {
                say("set", name("v", upTo(vars - 1)), "=");
                sum(2);
                say(";");
            }
        }
    }

    private void block(int most) {
        say("{");
        open++;
        int n = upTo(3);
        for (int i = 0; i < n && lines < 50; i++) {
            order(most);
        }
        open--;
        say("}");
    }

    private void small() {
        if (upTo(2) == 0) {
            sum(1);
        } else {
            say(upTo(2) == 0 ? 0 : upTo(5));
        }
    }

    private void sum(int deep) {
        product(deep);
        for (int i = upTo(3); i > 2; i--) {
            say(upTo(1) == 0 ? "+" : "-");
            product(deep);
        }
    }

    private void product(int deep) {
        piece(deep);
        if (upTo(2) == 0) {
            say("*/%".charAt(upTo(2)));
            piece(deep);
        }
    }

    private void piece(int deep) {
        int what = upTo(8);
        if (what == 0 && deep > 0 && open < 6) {
            open++;
            say("(");
            sum(deep - 1);
            say(")");
            open--;
        } else if (what == 1 && deep > 0 && open < 6) {
            open++;
            say(upTo(1) == 0 ? "min" : "max", "(");
            sum(deep - 1);
            say(",");
            sum(deep - 1);
            say(")");
            open--;
        } else if (what == 2) {
            say("tick");
        } else if (what <= 5 && inputs > 0) {
            say(name("n", upTo(inputs - 1)));
        } else if (what <= 7 && vars > 0) {
            say(name("v", upTo(vars - 1)));
        } else {
            say(upTo(3) == 0 ? upTo(999) : upTo(9));
        }
    }

    private void test(int deep) {
        fact(deep);
        for (int i = upTo(3); i > 2; i--) {
            say(upTo(1) == 0 ? "or" : "and");
            fact(deep);
        }
    }

    private void fact(int deep) {
        while (upTo(4) == 0) {
            say("not");
        }
        int what = upTo(6);
        if (what == 0 && deep > 0 && open < 6) {
            open++;
            say("[");
            test(deep - 1);
            say("]");
            open--;
        } else if (what == 1) {
            say("all");
        } else if (what <= 3) {
            say("held", name("p", upTo(parts - 1)));
        } else {
            sum(1);
            say("<>=".charAt(upTo(2)));
            sum(1);
        }
    }
}
