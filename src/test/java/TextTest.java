/** Promises 1 to 8: the tape, THE TEXT and its FAULTS, what there is, what is put. */
public final class TextTest {
    private static final String PART = " sleep 0 wake 0 0 on 0 work 0 tail 0;";
    private static final String DECLARED = "part p" + PART + "input n 1 5;var v;";

    public static void main(String[] args) {
        newObject();
        tape();
        wholeTexts();
        faultOne();
        faultsOfNames();
        faultsOfNumbers();
        faultsOfMany();
        firstAlongTheText();
        whatStays();
        names();
        puts();
        Check.finish("TextTest");
    }

    private static void newObject() {
        SipMeter x = new SipMeter();
        Check.due("NONE", SipMeter.NONE, -1);
        for (int what = 0; what < 6; what++) {
            Check.due("has(" + what + ") of a new object", x.has(what), 0);
        }
        Check.due("has(-1)", x.has(-1), -1);
        Check.due("has(6)", x.has(6), -1);
        Check.due("fault(0) ahead of any", x.fault(0), 0);
        Check.due("fault(1) ahead of any", x.fault(1), -1);
        Check.due("fault(2)", x.fault(2), -1);
        Check.due("fault(-1)", x.fault(-1), -1);
        for (int what = -1; what < 7; what++) {
            Check.due("ran(" + what + ") of a new object", x.ran(what), -1);
        }
        Check.due("value", x.value(0), -2000000000);
        Check.due("spent", x.spent(0, 0), -1);
        Check.due("pays", x.pays(0, 0), -1);
        Check.due("pays of nobody", x.pays(-1, 0), -1);
        Check.due("stretches", x.stretches(0), -1);
        Check.due("stretch", x.stretch(0, 0, 0), -1);
        Check.due("lines", x.lines(0, 0), 0);
        Check.due("byTurns", x.byTurns(0, 0, 0, true), -1000000000000000L);
        Check.due("wasted", x.wasted(0), -1);
        Check.due("where", x.where(0), -1);
        Check.due("fit", x.fit(0), -1);
        Check.due("fitted", x.fitted(0), -1);
        Check.due("forget", x.forget(), 0);
        Check.due("together", x.together(0), -1);
        Check.due("later", x.later(0), -1);
        Check.due("never", x.never(), 0);
        Check.due("lasts", x.lasts(1, 1, 1), -1);
        Check.due("letter", x.letter(0, 0, 0), -1);
        Check.due("put", x.put(0, 0), false);
        Check.due("over", x.over(true), 0);
        Check.due("run of no ORDERS", x.run(-1), 0);
        Check.due("TICKS of no ORDERS", x.ran(0), 0);
        Check.due("sips of no ORDERS", x.ran(1), 0);
    }

    private static void tape() {
        SipMeter x = new SipMeter();
        for (int i = 1; i <= 45; i++) {
            Check.due("feed " + i, x.feed(0, 0, 0, 0, 0), 20 * i);
        }
        Check.due("feed 46", x.feed(0, 0, 0, 0, 0), -1);
        Check.due("end(901)", x.end(901), false);
        Check.due("end(-1)", x.end(-1), false);
        Check.due("end(900)", x.end(900), true);
        Check.due("end(881)", x.end(881), true);
        Check.due("feed at 881", x.feed(0, 0, 0, 0, 0), -1);
        Check.due("end(882)", x.end(882), false);
        Check.due("end(880)", x.end(880), true);
        Check.due("feed at 880", x.feed(0, 0, 0, 0, 0), 900);
        Check.due("end(0)", x.end(0), true);
        Check.due("end(1)", x.end(1), false);
        // "var abcd;" with the highest byte first, then what end() takes away
        Check.due("feed", x.feed(0x76617220, 0x61626364, 0x3b000000, 0, 0), 20);
        Check.due("end(9)", x.end(9), true);
        Check.due("text", x.text(), 0);
        Check.due("VARS", x.has(2), 1);
        Check.due("letter 0", x.letter(2, 0, 0), 'a');
        Check.due("letter 3", x.letter(2, 0, 3), 'd');
        Check.due("letter 4", x.letter(2, 0, 4), -1);
        Check.due("the tape is gone", x.end(1), false);
        Check.due("the tape begins anew", x.feed(-1, -1, -1, -1, -1), 20);
        Check.due("bytes 255", x.text(), -1);
        Check.due("bytes 255", x.fault(0), 1);
        Check.due("bytes 255", x.fault(1), 0);
        Check.due("the tape is gone, refused", x.feed(0, 0, 0, 0, 0), 20);
    }

    private static void wholeTexts() {
        Check.with("", 0);
        Check.with("  \n \n", 0);
        Check.with("heart 0;heart 999;cache 8 8 20;cache 1 1 0;", 0);
        Check.with("heart\n0007\n;", 0);
        Check.with("part a sleep 999 wake 20 999 on 999 work 999 tail 50;input n 0 99;input m 99 99;input o 0 0;", 0);
        Check.with("var hearts;var sleepy;var o;var ifs;var maxi;var tickk;set o=hearts+tickk*tick;", 1);
        Check.with(DECLARED + "set v=1;use p 2;hold p;free p;wait 3;touch 4;if all{}else{}while all{}", 8);
        Check.with(DECLARED + "if not not all and held p or[v<n]and(v)>1{if v=n{wait 0;}}else{while all{}}wait 999;", 5);
        Check.with(DECLARED + "wait min(v,max(n,tick))-(v+n*2)/3%4;", 1);
        Check.with("wait((((((((1))))))));", 1);
        Check.with("if[[[[[[[1<2]]]]]]]{}if[[[[[[[[all]]]]]]]]{}", 2);
        Check.with("if all{if all{if all{if all{if all{if all{if all{if all{wait 0;}}}}}}}}wait((1));", 10);
        Check.with("if all{" + "wait 1;".repeat(59) + "}else{}", 60);
        Check.with("if " + "not ".repeat(220) + "all{}", 1);
        Check.with("wait " + "1+".repeat(400) + "1;", 1);
    }

    private static void faultOne() {
        String[] texts = {
            "@x", "@hea", "@7", "@;", "@}", "@{", "@#", "@Heart 2;", "@\u00e4", "@\0", "  \n@\t",
            "heart@", "heart  \n @", "heart 2@", "heart 2 @heart 3;", "heart@2;", "heart @;", "heart @a;", "heart 2@,",
            "heart 1234@5;", "heart 0000@0", "abcdef@g", "heart 2 abcdef@g", "heart abcdef@ghi", "wait 1 abcdef@g;", "wait 1234@5", "heart@\t2;",
            "wait 1 1234@5;", "heart 9 0000@00;",
            "cache 1 1@;", "cache 1 1 1 @1;", "cache 1 @;",
            "part @heart", "part @1", "part@", "part a @wake", "part a sleep 1 @on", "part a sleep 1 wake 2 @on 3", "part a@1",
            "part a sleep 1 wake 2 3@on 3", "part a sleep 1 wake 2 3 on 4 work 5 tail 6@", "part a sleep@1",
            "input @min 0 1;", "input n@0 1;", "input n 0@;", "input n 0 1 @2;", "var @var;", "var a @b;", "var a@,",
            "wait 1; @heart 2;", "wait 1; @var a;", "wait 1;@part", "wait 1;@cache", "wait 1;@input", "if all { @var a; }",
            "wait @;", "wait 1@a;", "wait 1 @2;", "wait (1@;", "wait (@)", "wait 1+@;", "wait 1 @= 2;", "wait @-1;", "wait @heart;", "wait @[1];",
            "wait 1 + @all;", "wait @held;", "wait tick@1;",
            "@else {}", "if all {} else @if all {}", "if all {} else {} @else {}", "while all {} @else {}", "if all @wait 1;", "if all { wait 1; @",
            "if all { wait 1; @]", "if @{", "if 1 @{ }", "if 1 < 2 @< 3 { }", "if 1 +@", "if (1 @< 2", "if 1 < @not all {}", "if [ all @) { }", "if [ all @{",
            "if all or@", "if not @{", "if all or@{}", "if all and @or", "if (1 @< 2) { }", "if [1@]", "if all @all {}", "if 1 - 2 @{}",
            "if 1 * @all {}", "touch min @1;", "touch min(1@);", "touch max(1,2@,3);", "touch min(1, 2@;", "wait 1; @}", "while all { } @}",
            "if all { @foo; }", "if all { @; }", "wait 1;@;",
        };
        for (String text : texts) {
            Check.refused(1, text);
        }
        Check.refused(1, DECLARED + "set v @1;");
        Check.refused(1, DECLARED + "set v = 1@");
        Check.refused(1, DECLARED + "set @tick = 1;");
        Check.refused(1, DECLARED + "set @1 = 1;");
        Check.refused(1, DECLARED + "use p@;");
        Check.refused(1, DECLARED + "use p@1;");
        Check.refused(1, DECLARED + "use @all 1;");
        Check.refused(1, DECLARED + "hold p @1;");
        Check.refused(1, DECLARED + "free @(p);");
        Check.refused(1, DECLARED + "if held @max {}");
        Check.refused(1, DECLARED + "if held p @< 1 {}");
        Check.refused(1, DECLARED + "if v @{}");
        Check.refused(1, DECLARED + "wait v @n;");
        Check.refused(1, DECLARED + "wait v@1;");
    }

    private static void faultsOfNames() {
        Check.refused(2, "var a;var @a;");
        Check.refused(2, DECLARED + "var @n");
        Check.refused(2, DECLARED + "input @p 5 1;");
        Check.refused(2, DECLARED + "part @v");
        Check.refused(2, DECLARED + "part @p");
        Check.refused(3, "use @p 1;");
        Check.refused(3, "set @abcdef = 1;");
        Check.refused(3, DECLARED + "set @n = 1;");
        Check.refused(3, DECLARED + "set @p = 1;");
        Check.refused(3, DECLARED + "use @v 1;");
        Check.refused(3, DECLARED + "hold @n;");
        Check.refused(3, DECLARED + "free @pp;");
        Check.refused(3, DECLARED + "wait @p;");
        Check.refused(3, DECLARED + "wait 1 + @vv");
        Check.refused(3, DECLARED + "if held @v {}");
        Check.refused(3, DECLARED + "if not [ @w < 1 ] {}");
        Check.refused(3, DECLARED + "set v = min(1, @x1");
        Check.refused(3, "use @b2;");
    }

    private static void faultsOfNumbers() {
        Check.refused(4, "heart @1000;");
        Check.refused(4, "heart @9999");
        Check.refused(4, "cache @0 1 1;");
        Check.refused(4, "cache @9 1 1;");
        Check.refused(4, "cache 1 @0 1;");
        Check.refused(4, "cache 8 @9 1;");
        Check.refused(4, "cache 8 8 @21;");
        Check.refused(4, "part a sleep @1000 wake");
        Check.refused(4, "part a sleep 999 wake @21 0");
        Check.refused(4, "part a sleep 999 wake 20 @1000");
        Check.refused(4, "part a sleep 999 wake 20 999 on @1000");
        Check.refused(4, "part a sleep 999 wake 20 999 on 999 work @1000");
        Check.refused(4, "part a sleep 999 wake 20 999 on 999 work 999 tail @51;");
        Check.refused(4, "input n @100 100;");
        Check.refused(4, "input n 99 @100;");
        Check.refused(4, "input n 5 @4;");
        Check.refused(4, "wait @1000;");
        Check.refused(4, "if 1 < @1000a");
    }

    private static void faultsOfMany() {
        StringBuilder parts = new StringBuilder();
        for (char c = 'a'; c < 'g'; c++) {
            parts.append("part ").append(c).append(PART);
        }
        Check.with(parts.toString(), 0);
        Check.refused(5, parts + "@part g" + PART);
        Check.refused(5, parts + " @part a");
        Check.refused(5, parts + "@part");
        Check.refused(1, parts + "heart 1 @part");
        String inputs = "input a 0 1;input b 0 1;input c 0 1;";
        Check.with(inputs, 0);
        Check.refused(5, inputs + "@input d 0 1;");
        String vars = "var a;var b;var c;var d;var e;var f;";
        Check.with(vars + inputs.replace("put ", "put i"), 0);
        Check.refused(5, vars + "@var g;");
        Check.refused(5, vars + "\n@var 7;");
        String lines = "wait 0;".repeat(60);
        Check.with(lines, 60);
        for (String word : new String[] {"set", "use", "hold", "free", "wait", "touch", "if", "while"}) {
            Check.refused(5, lines + "@" + word + " x");
        }
        Check.refused(1, lines + "@else");
        Check.refused(1, lines + "@var");
        Check.refused(1, lines + "@}");
        Check.refused(1, lines + "@foo");
        Check.refused(1, lines + "setset@s");
        Check.refused(5, "if all{" + "wait 0;".repeat(59) + "@wait 0;}");
        Check.refused(5, "wait ((((((((@(1)))))))));");
        Check.refused(5, "if [[[[[[[[@[all]]]]]]]]] {}");
        Check.refused(5, "if [[[[[[[[min@(1,2)<3]]]]]]]] {}");
        Check.refused(5, "while all {".repeat(8) + "if all @{");
        Check.refused(5, "while all {".repeat(8) + "wait @(");
        Check.refused(5, "while all {".repeat(5) + "if [[(@(1");
        Check.refused(1, "wait ((((((((1 @(");
        Check.refused(1, "while all {".repeat(8) + "@{");
    }

    private static void firstAlongTheText() {
        Check.refused(4, "heart @1000 x");
        Check.refused(2, "var a;var @a b");
        Check.refused(3, "use @p#");
        Check.refused(1, "heart 1 @# var a; var a;");
        Check.refused(4, "input n 5 @4x");
        Check.refused(4, "wait @1000x");
        Check.refused(1, "wait 100@x");
    }

    private static void whatStays() {
        SipMeter x = Check.with("part a sleep 1 wake 2 3 on 4 work 5 tail 6;input n 2 4;var v;use a n;set v = n;", 2);
        Check.due("put", x.put(0, 3), true);
        Check.due("run", x.run(-1), 0);
        int sips = x.ran(1);
        Check.due("measure", x.measure(sips), 1);
        Check.due("fit", x.fit(0), 0);
        Check.due("over", x.over(true) > 0, true);
        Check.due("ask", x.ask(1, 2, 3), 1);
        Check.due("together", x.together(0) > 0, true);
        Check.due("a text with a FAULT", Check.text(x, "var w;use w 3;"), -1);
        Check.due("its FAULT", x.fault(0), 3);
        Check.due("its place", x.fault(1), 10);
        Check.due("LINES stay", x.has(3), 2);
        Check.due("PARTS stay", x.has(0), 1);
        Check.due("MEASURED stay", x.has(4), 1);
        Check.due("the RUN stays", x.ran(1), sips);
        Check.due("the VAR stays", x.value(0), 3);
        Check.due("the NAME stays", x.letter(2, 0, 0), 'v');
        Check.due("the FIT stays", x.fitted(3) > 0, true);
        Check.due("where stays", x.where(0), 4);
        Check.due("what is put stays", x.run(-1) == 0 && x.value(0) == 3, true);
        Check.due("the same text", Check.text(x, "input n 2 4;var v;set v = n;"), 1);
        Check.due("no FAULT", x.fault(0), 0);
        Check.due("no place", x.fault(1), -1);
        Check.due("nothing was run", x.ran(1), -1);
        Check.due("no VAR was run", x.value(0), -2000000000);
        Check.due("nothing is MEASURED", x.has(4), 0);
        Check.due("nothing is FIT", x.fitted(0), -1);
        Check.due("ASKS stay", x.has(5), 1);
        Check.due("PARTS are gone", x.has(0), 0);
        Check.due("run", x.run(-1), 0);
        Check.due("nothing is put", x.value(0), 2);
    }

    private static void names() {
        SipMeter x = Check.with("part radio" + PART + "part zz" + PART + "input n 0 1;var abcdef;var i;", 0);
        String radio = "radio";
        for (int k = 0; k < 5; k++) {
            Check.due("letter of radio", x.letter(0, 0, k), radio.charAt(k));
        }
        Check.due("behind radio", x.letter(0, 0, 5), -1);
        Check.due("ahead of radio", x.letter(0, 0, -1), -1);
        Check.due("zz", x.letter(0, 1, 1), 'z');
        Check.due("behind zz", x.letter(0, 1, 2), -1);
        Check.due("no third PART", x.letter(0, 2, 0), -1);
        Check.due("no PART -1", x.letter(0, -1, 0), -1);
        Check.due("n", x.letter(1, 0, 0), 'n');
        Check.due("no second INPUT", x.letter(1, 1, 0), -1);
        Check.due("f", x.letter(2, 0, 5), 'f');
        Check.due("behind f", x.letter(2, 0, 6), -1);
        Check.due("i", x.letter(2, 1, 0), 'i');
        Check.due("kind 3", x.letter(3, 0, 0), -1);
        Check.due("kind -1", x.letter(-1, 0, 0), -1);
        Check.due("far k", x.letter(0, 0, 2147483647), -1);
        Check.due("far which", x.letter(0, -2147483648, 0), -1);
    }

    private static void puts() {
        SipMeter x = Check.with("input n 2 4;input m 7 7;var v;set v = n*100+m;", 1);
        Check.due("run", x.run(-1), 0);
        Check.due("their least at first", x.value(0), 207);
        Check.due("below", x.put(0, 1), false);
        Check.due("above", x.put(0, 5), false);
        Check.due("greatest", x.put(0, 4), true);
        Check.due("only one", x.put(1, 7), true);
        Check.due("not that", x.put(1, 8), false);
        Check.due("no INPUT 2", x.put(2, 0), false);
        Check.due("no INPUT -1", x.put(-1, 2), false);
        Check.due("the RUN is as it was", x.value(0), 207);
        Check.due("run", x.run(-1), 0);
        Check.due("as put", x.value(0), 407);
    }
}
