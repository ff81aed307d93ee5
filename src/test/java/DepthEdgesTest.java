/** The FAULT 6 of the 21st that is open of { ( [ , - of one FACTOR and ! up to its end. */
public final class DepthEdgesTest {
    public static void main(String[] args) {
        Checks checks = new Checks("depth edges");
        oneMore(checks);
        twoMore(checks);
        upToItsEnd(checks);
        eachAlone(checks);
        whatDoesNotCount(checks);
        behindFaults(checks);
        checks.end();
    }

    private static String within(int blocks, String text) {
        return "{".repeat(blocks) + text + "}".repeat(blocks);
    }

    /** With so many BLOCKS open the text has no 6, and with one more it has one at the mark. */
    private static void fits(Checks checks, int blocks, String text) {
        String plain = text.replace("@", "");
        StatementRules2 x = Checks.reading(within(blocks, plain));
        checks.same("fault() of " + text + " within " + blocks, x.fault(), 0);
        checks.marked(within(blocks + 1, text), 6);
        int mark = text.indexOf('@');
        checks.faulty("{".repeat(blocks + 1) + plain.substring(0, mark + 1), 6, blocks + 1 + mark);
    }

    private static void oneMore(Checks checks) {
        String[] texts = {"@{}", "log @(1);", "log @-1;", "int x=@(1);", "a=@-1;", "if@(a<1);", "while@(a<1);",
            "do;while@(a<1);", "for@(;a<1;);", "for@(int i:1);", "lock@(m0){}", "switch@(a){}", "try@{}finally{}",
            "try with r0@{}", "assert @!true;", "assert @[true];", "assert true:@(1);", "log switch@(a){default->1;};",
            "throw e0 @(1);", "return @-1;", "x:@{}", "assert true&&@!true;", "assert true||@[true];",
            "assert 1<@(2);", "assert @-1<2;", "log 1+@(2);", "log 1*@-2;", "log 1-@-2;"};
        for (String text : texts) {
            fits(checks, 19, text);
        }
    }

    private static void twoMore(Checks checks) {
        String[] texts = {"{@{}}", "log (@(1));", "log (@-1);", "log -@(1);", "log - @-1;", "if(@!true);",
            "if(@[true]);",
            "if(@(1)<2);", "if(1<@-2);", "while(@!true);", "do;while(@[true]);", "for(;@!true;);", "for(a=@(1);a<1;);",
            "for(;a<1;a=@-1);", "for(int i:@-1);", "for(int i:1,@(2));", "lock(m0){@{}}", "switch(@-1){}",
            "switch(a){case 1:@{}}", "switch(a){case 1:log @-1;}", "try{@{}}finally{}", "try{}finally{@{}}",
            "try{}catch(e0 x){@{}}", "try{lock@(m0){}}finally{}", "assert !@!true;", "assert [@!true];",
            "assert !@[true];",
            "assert [@[true]];", "log switch(@(a)){default->1;};", "log switch(a){default->@(1);};",
            "log switch(a){default->@{yield 1;}};", "log switch(a){case 1->@-1;default->2;};"};
        for (String text : texts) {
            fits(checks, 18, text);
        }
    }

    /** What has come to its end is open no more. */
    private static void upToItsEnd(Checks checks) {
        String[] texts = {"{}{}", "log (1)+(2)*(3);", "log -1+-2*-3/-4;", "if(true)log -1;else log (2);",
            "assert !true&&!false||!true;", "assert [true]&&[true];", "assert -1<-2;", "assert (1)<(2);",
            "lock(m0){}lock(m0){}", "try{}catch(e1 x){}catch(e2 x){}finally{}", "for(int i:-1,-2,(3));",
            "for(a=-1;!true;a=(2));", "switch(a){case 1:}switch(a){}",
            "log switch(a){case 1->1;default->2;}+switch(b){default->1;};", "do;while(a<1);", "x:{}y:{}"};
        for (String text : texts) {
            int blocks = text.startsWith("for") ? 18 : 19;
            StatementRules2 x = Checks.reading(within(blocks, text));
            checks.same("fault() of " + text + " within " + blocks, x.fault(), 0);
        }
        fits(checks, 18, "assert !a<@-1;");
        fits(checks, 18, "assert !@(a)<1;");
        fits(checks, 18, "log -switch@(a){default->1;};");
        fits(checks, 16, "log -switch(a){default->-@(1);};");
        checks.sound("log " + "-1-".repeat(40) + "1;", 1);
        checks.sound("if(" + "!true&&".repeat(40) + "true);", 2);
        checks.sound("log " + "(1)+".repeat(40) + "1;", 1);
        checks.sound("{}".repeat(40), 40);
    }

    /** 20 of one sort alone, and 21. */
    private static void eachAlone(Checks checks) {
        alone(checks, "", "{", "", "}", 20, "");
        alone(checks, "log ", "(", "1", ")", 20, ";");
        alone(checks, "log ", "-", "1", "", 20, ";");
        alone(checks, "log ", "- ", "a", "", 20, ";");
        alone(checks, "assert ", "!", "true", "", 20, ";");
        alone(checks, "assert ", "! ", "a<1", "", 20, ";");
        alone(checks, "assert ", "[", "true", "]", 20, ";");
        alone(checks, "", "lock(m0){", "", "}", 20, "");
        alone(checks, "", "switch(a){case 1:", "", "}", 20, "");
        alone(checks, "", "try{", "", "}finally{}", 20, "");
        alone(checks, "log ", "switch(a){default->", "1", ";}", 20, ";");
        alone(checks, "log ", "-(", "1", ")", 10, ";");
        alone(checks, "assert ", "![", "true", "]", 10, ";");
        alone(checks, "", "for(;;){", "", "}", 20, "");
    }

    private static void alone(Checks checks, String before, String open, String middle, String close, int most,
        String end) {
        StatementRules2 x = Checks.reading(before + open.repeat(most) + middle + close.repeat(most) + end);
        checks.same("fault() of " + most + " times " + open, x.fault(), 0);
        String text = before + open.repeat(most + 1) + middle + close.repeat(most + 1) + end;
        int sign = 0;
        for (int i = 0; i < open.length() && sign == 0; i++) {
            sign = "{([-!".indexOf(open.charAt(i)) >= 0 ? i + 1 : 0;
        }
        checks.faulty(text, 6, before.length() + open.length() * most + sign - 1);
    }

    private static void whatDoesNotCount(Checks checks) {
        checks.sound(within(19, "switch(a){case -1:}"), 20);
        checks.sound(within(19, "log switch(a){case -1,-2->1;default->2;};"), 20);
        checks.sound(within(20, "log 1-2;"), 21);
        checks.sound(within(20, "log a-b-1;"), 21);
        checks.sound(within(20, "assert a!=b;"), 21);
        checks.sound(within(20, "x:y:z:;"), 24);
        checks.sound("if(a<1)".repeat(60) + ";", 61);
        checks.sound("while(a<1)".repeat(60) + ";", 61);
    }

    /** What an earlier text left open is not open in the next one. */
    private static void behindFaults(Checks checks) {
        String[] faulty = {"{".repeat(20), "log " + "(".repeat(20), "log " + "-".repeat(20), "assert " + "!".repeat(20),
            "assert " + "[".repeat(20), "{".repeat(21), "log " + "-".repeat(21), "lock(m0){try{lock(m1){z=1;",
            "log switch(a){default->{log switch(b){default->{z=1;", "return 1;{log 1;}"};
        for (String text : faulty) {
            StatementRules2 x = Checks.reading(text);
            checks.same("fault() of " + text + " is one", x.fault() == 0 ? 0 : 1, 1);
            checks.sound(x, within(20, ";"), 21);
            checks.sound(x, "log " + "-".repeat(20) + "1;", 1);
            checks.runs(x, "while(true){lock(m0){try{throw e0 1;}catch(e0 x){break;}}}log 4;", 0, 0,
                "take0 drop0 log4 | ended");
            checks.faulty(x, "yield 1;", 5, 0);
        }
    }
}
