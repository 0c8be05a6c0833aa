import java.lang.reflect.Constructor;
import java.lang.reflect.Field;
import java.lang.reflect.Method;
import java.lang.reflect.Modifier;
import java.nio.file.Files;
import java.nio.file.Path;
import java.util.Set;
import java.util.TreeSet;
import java.util.regex.Matcher;
import java.util.regex.Pattern;

/** The public face is the document's, and the source keeps to what LANGUAGE.md leaves. */
public final class FaceTest {
    private static final Set<String> FACE = Set.of(
        "int feed(int,int,int,int,int)", "boolean end(int)", "int text()", "int fault(int)", "int has(int)", "int letter(int,int,int)",
        "boolean put(int,int)", "int run(int)", "int ran(int)", "int value(int)", "int spent(int,int)", "int pays(int,int)",
        "int stretches(int)", "int stretch(int,int,int)", "long lines(int,int)", "long byTurns(int,int,int,boolean)", "int wasted(int)",
        "int over(boolean)", "int where(int)", "int measure(int)", "int fit(int)", "int fitted(int)", "int ask(int,int,int)", "int forget()",
        "int together(int)", "int later(int)", "int never()", "int lasts(int,int,int)");

    public static void main(String[] args) throws Exception {
        face();
        source(Files.readString(Path.of("src/main/java/SipMeter.java")));
        Check.finish("FaceTest");
    }

    private static void face() throws Exception {
        Check.due("public and final", Modifier.isPublic(SipMeter.class.getModifiers()) && Modifier.isFinal(SipMeter.class.getModifiers()), true);
        Set<String> found = new TreeSet<>();
        Set<String> names = new TreeSet<>();
        for (Method m : SipMeter.class.getDeclaredMethods()) {
            if (Modifier.isPublic(m.getModifiers())) {
                String types = String.join(",", java.util.Arrays.stream(m.getParameterTypes()).map(Class::getName).toList());
                found.add(m.getReturnType().getName() + " " + m.getName() + "(" + types + ")");
                names.add(m.getName());
            }
        }
        Check.due("the methods " + found, found.equals(new TreeSet<>(FACE)), true);
        for (Method m : SipMeter.class.getDeclaredMethods()) {
            boolean isPublic = Modifier.isPublic(m.getModifiers());
            Check.due(m + " is public or private", isPublic || Modifier.isPrivate(m.getModifiers()), true);
            Check.due(m + " bears a name of its own", isPublic || !names.contains(m.getName()), true);
        }
        for (Field f : SipMeter.class.getDeclaredFields()) {
            Check.due(f + " is private", f.getName().equals("NONE") || Modifier.isPrivate(f.getModifiers()), true);
        }
        for (Constructor<?> c : SipMeter.class.getDeclaredConstructors()) {
            Check.due("one constructor", c.getParameterCount(), 0);
        }
        for (Class<?> inner : SipMeter.class.getDeclaredClasses()) {
            Check.due(inner + " is static", Modifier.isStatic(inner.getModifiers()), true);
            int fields = 0;
            for (Field f : inner.getDeclaredFields()) {
                boolean constant = Modifier.isStatic(f.getModifiers());
                Check.due(f + " is final if static", !constant || Modifier.isFinal(f.getModifiers()), true);
                fields += constant ? 0 : 1;
            }
            Check.due(inner + " has few fields", fields <= 20, true);
            for (Method m : inner.getDeclaredMethods()) {
                Check.due(m + " bears a name of its own", !names.contains(m.getName()), true);
                Check.due(m + " takes few", m.getParameterCount() <= 7, true);
            }
        }
        Check.due("few classes", SipMeter.class.getDeclaredClasses().length <= 11, true);
    }

    private static void source(String text) {
        String code = text.replaceAll("(?s)/\\*.*?\\*/", "").replaceAll("//[^\n]*", "");
        for (String word : new String[] {"throw", "throws", "try", "catch", "synchronized", "assert", "package", "protected",
            "double", "float", "volatile", "native", "Object", "Random", "Thread", "MAX_VALUE", "MIN_VALUE", "out", "err", "equals"}) {
            Check.due("the word " + word, Pattern.compile("\\b" + word + "\\b").matcher(code).find(), false);
        }
        for (String sign : new String[] {"->", "::", "Exact(", "@", "\"+", "+\"", "\" +", "+ \""}) {
            Check.due("the sign " + sign, code.contains(sign), false);
        }
        Matcher imports = Pattern.compile("import ([^;]*);").matcher(code);
        while (imports.find()) {
            Check.due("import of " + imports.group(1), imports.group(1).equals("java.util.Arrays"), true);
        }
        Matcher news = Pattern.compile("new (\\w+)").matcher(code);
        Set<String> made = new TreeSet<>();
        while (news.find()) {
            made.add(news.group(1));
        }
        made.removeAll(Set.of("int", "byte", "long", "Tokens", "Reader", "Machine", "Runner", "Turns", "Ways", "Fits", "Asks", "Program", "Book", "Trail"));
        Check.due("nothing else is made " + made, made.isEmpty(), true);
        int longest = 0;
        int since = -1;
        String[] rows = code.split("\n");
        for (int i = 0; i < rows.length; i++) {
            if (rows[i].matches(" {4}( {4})?[a-zA-Z].*\\) \\{")) {
                since = i;
            }
            if (rows[i].matches(" {4}( {4})?\\}") && since >= 0) {
                longest = Math.max(longest, i - since);
                since = -1;
            }
        }
        Check.due("methods stay short: " + longest, longest > 10 && longest <= 60, true);
    }
}
