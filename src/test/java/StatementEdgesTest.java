/** STATEMENTS at their edges: empty ones, what may be left out, what is no body, and where a NAME is seen. */
public final class StatementEdgesTest {
    private static final String[] BODIES = {"if(a<1)", "if(a<1);else ", "while(a<1)", "do ", "for(;a<1;)",
        "for(int i:1)",
        "x:", "x:y:", "if(a<1)x:", "x:if(a<1)", "while(a<1)do ", "switch(a){case 1:if(a<1)"};

    public static void main(String[] args) {
        Checks checks = new Checks("statement edges");
        bodies(checks);
        empty(checks);
        partsOfFor(checks);
        rows(checks);
        groups(checks);
        arms(checks);
        tries(checks);
        theNearestIf(checks);
        seenBehindItsValue(checks);
        seenToTheEnd(checks);
        seenAlready(checks);
        labels(checks);
        counts(checks);
        checks.end();
    }

    /** A S that is a body is no int, no var; it may be a BLOCK with one. */
    private static void bodies(Checks checks) {
        for (String body : BODIES) {
            checks.faulty(body + "int q=1;", 2, body.length());
            checks.faulty(body + "var q=1;", 2, body.length());
        }
        checks.sound("if(a<1){int q=1;}else{var q=1;}while(a<1){int q=1;}do{var q=1;}while(a<1);"
            + "for(;a<1;){int q=1;}for(int i:1){var q=1;}x:{int q=1;}switch(a){case 1:int q=1;var z=1;}", 23);
    }

    private static void empty(Checks checks) {
        checks.sound("", 0);
        checks.sound("{}{{}}", 3);
        checks.sound("switch(a){}switch(a){case 1:}switch(a){default:}switch(a){case 1:default:case 2:}", 4);
        checks.sound("lock(m0){}try{}finally{}try{}catch(e0 x){}try with r0{}try with r0{}catch(e0 x){}finally{}", 5);
        checks.sound("if(a<1){}else{}while(a<1){}do{}while(a<1);for(;a<1;){}x:{}", 11);
        checks.runs("{}{{}}switch(a){}if(a<1){}else{}do{}while(a<0);x:{}try{}finally{}", 0, 0, "| ended");
        checks.marked("log switch(a){@};", 2);
        checks.marked("log (@);", 2);
        checks.marked("if(@);", 2);
        checks.marked("if([@]);", 2);
        checks.marked("while(@);", 2);
        checks.marked("do;while(@);", 2);
        checks.marked("lock(@){}", 2);
        checks.marked("switch(@){}", 2);
        checks.marked("for(@);", 2);
        checks.marked("for(;@);", 2);
        checks.marked("try{}catch(@){}", 2);
        checks.marked("do while(a<1);@", 2);
        checks.marked("if(a<1)@", 2);
        checks.marked("if(a<1)@else;", 2);
        checks.marked("while(a<1)@", 2);
    }

    private static void partsOfFor(Checks checks) {
        for (String first : new String[] {"", "int i=0", "a=0"}) {
            for (String test : new String[] {"", "true", "a<2", "false||a<1"}) {
                for (String next : new String[] {"", "a++", "a=a+1"}) {
                    checks.sound("for(" + first + ";" + test + ";" + next + ")break;", 2);
                }
            }
        }
        checks.marked("for(a@++;;);", 2);
        checks.marked("for(@var i=0;;);", 2);
        checks.marked("for(int i@;;);", 2);
        checks.marked("for(@log 1;;);", 2);
        checks.marked("for(int i=0@,b=0;;);", 2);
        checks.marked("for(a=0@,b=0;;);", 2);
        checks.marked("for(;;@int j=1);", 2);
        checks.marked("for(;;a@);", 2);
        checks.marked("for(;;a++@,b++);", 2);
        checks.marked("for(;;a=@);", 2);
        checks.marked("for(;a@;);", 2);
        checks.marked("for(a@:1);", 2);
        checks.marked("for(@:1);", 2);
        checks.marked("for(;;)@", 2);
    }

    private static void rows(Checks checks) {
        checks.runs("for(int i:7)log i;", 0, 0, "log7 | ended");
        checks.runs("for(int i:null)log i;log 1;", 0, 0, "| threw e1 0");
        checks.marked("for(int i:@);", 2);
        checks.marked("for(int i:1,@);", 2);
        checks.marked("for(int i:@,1);", 2);
        checks.marked("for(int i:1,@null);", 2);
        checks.marked("for(int i:null@,1);", 2);
        checks.marked("for(int i:null@+1);", 2);
        checks.marked("for(int i:@true);", 2);
        checks.marked("for(int i:1@;);", 2);
        checks.marked("for(@var i:1);", 2);
    }

    private static void groups(Checks checks) {
        checks.marked("switch(a){@;}", 2);
        checks.marked("switch(a){@{}}", 2);
        checks.marked("switch(a){case 1@,2:}", 2);
        checks.marked("switch(a){case @:}", 2);
        checks.marked("switch(a){case 1@}", 2);
        checks.marked("switch(a){case -@:}", 2);
        checks.marked("switch(a){case - @-1:}", 2);
        checks.marked("switch(a){case @(1):}", 2);
        checks.marked("switch(a){case 1@+1:}", 2);
        checks.marked("switch(a){default@;}", 2);
        checks.marked("switch(a){default @1:}", 2);
        checks.marked("switch(a){case 1:@else;}", 2);
        checks.marked("switch(a){case 1:if(a<1)@case 2:;}", 2);
        checks.sound("switch(a){case 5:case -5:case 999999999:case -999999999:case 0:}", 1);
        checks.marked("switch(a){case 5:case -5:case @05:}", 4);
        checks.marked("switch(a){case - 5:case 5:case -@5:}", 4);
        checks.marked("switch(a){case 000:case -@0:}", 4);
        checks.marked("switch(a){case 999999999:case @999999999:}", 4);
        checks.marked("switch(a){default:case 1:@default:}", 4);
        checks.sound("switch(a){case 1:switch(b){case 2:default:}case 2:default:}", 2);
        checks.marked("switch(a){case 1:switch(b){case 2:default:}case @1:}", 4);
        checks.sound("switch(a){case 1:log switch(b){case 2->1;default->2;};case 2:default:}", 2);
        checks.runs("switch(a){case 1:switch(b){case 2:log 3;}case 2:log 4;case 3:log 5;}", 3, 2, "log5 | ended");
        checks.runs("switch(a){case 1:switch(b){case 2:log 3;}case 2:log 4;}", 1, 2, "log3 log4 | ended");
    }

    private static void arms(Checks checks) {
        checks.sound("log switch(a){default->1;};", 1);
        checks.sound("log switch(a){default->1;case 1,-1,2->3;case 4->5;};", 1);
        checks.marked("log switch(a){case 1->2;@};", 2);
        checks.marked("log switch(a){case 1->{yield 2;}@};", 2);
        checks.marked("log switch(a){case 1->switch(b){default->2;};@};", 2);
        checks.marked("log switch(a){case 1,@->2;default->3;};", 2);
        checks.marked("log switch(a){case 1 @2->2;default->3;};", 2);
        checks.marked("log switch(a){default@,1->2;};", 2);
        checks.marked("log switch(a){default->@;};", 2);
        checks.marked("log switch(a){default->1;@;};", 2);
        checks.marked("log switch(a){default->{yield 1;}@;};", 2);
        checks.marked("log switch(a){default->@throw e0 1;};", 2);
        checks.marked("log switch(a){default->@yield 1;};", 2);
        checks.marked("log switch(a){case 1,2->3;case 4,@2->3;default->3;};", 4);
        checks.marked("log switch(a){case 0,-@0->3;default->3;};", 4);
        checks.marked("log switch(a){default->3;case 1->2;@default->3;};", 4);
        checks.sound("log switch(a){case 1->switch(b){case 1,2->1;default->2;};case 2->4;default->3;};", 1);
        checks.marked("log switch(a){case 1->switch(b){case 2->1;default->2;};case @1->4;default->3;};", 4);
        checks.runs("return switch(a){case 1->switch(b){case 2->7;default->8;};case 2->9;default->10;};", 2, 2,
            "| returned 9");
        checks.runs("return switch(a){case 1->switch(b){case 2->7;default->8;};case 2->9;default->10;};", 1, 3,
            "| returned 8");
        checks.runs("return switch(a){case -999999999->1;case 999999999->2;default->3;};", -999999999, 0,
            "| returned 1");
        checks.runs("return switch(a){case 0->1;default->3;};", Integer.MIN_VALUE, 0, "| returned 3");
    }

    private static void tries(Checks checks) {
        checks.marked("try{}@", 2);
        checks.marked("try{}@;", 2);
        checks.marked("{try{}@}", 2);
        checks.marked("try{}catch(e0 x){}try{}@", 2);
        checks.marked("try with r0{}try{}@", 2);
        checks.sound("try with r0{}", 1);
        checks.sound("try with r0,r0,r1{}catch(e1 x){}catch(e2 x){}catch(e0 x){}finally{}", 1);
        checks.marked("try with @{}", 2);
        checks.marked("try with r0 @r1{}", 2);
        checks.marked("try with r0,@{}", 2);
        checks.marked("try with @(r0){}", 2);
        checks.marked("try{}finally@;", 2);
        checks.marked("try{}finally{}@finally{}", 2);
        checks.marked("try{}finally{}@catch(e0 x){}", 2);
        checks.marked("try{}catch@{}", 2);
        checks.marked("try{}catch(e0|@){}", 2);
        checks.marked("try{}catch(e1 @e2 x){}", 2);
        checks.marked("try{}catch(e1@,e2 x){}", 2);
        checks.marked("try{}catch(e1 x@|e2 y){}", 2);
        checks.marked("try{}catch(e1 x @y){}", 2);
    }

    private static void theNearestIf(Checks checks) {
        String text = "if(a<1)if(b<1)log 1;else log 2;log 3;";
        checks.runs(text, 0, 0, "log1 log3 | ended");
        checks.runs(text, 0, 1, "log2 log3 | ended");
        checks.runs(text, 1, 0, "log3 | ended");
        text = "if(a<1)if(b<1)log 1;else log 2;else log 4;log 3;";
        checks.runs(text, 0, 0, "log1 log3 | ended");
        checks.runs(text, 1, 0, "log4 log3 | ended");
        text = "if(a<1)while(b<1)if(b<0)b++;else{log 5;break;}else log 6;log 7;";
        checks.runs(text, 0, -1, "log5 log7 | ended");
        checks.runs(text, 1, -1, "log6 log7 | ended");
        text = "if(a==0)log 0;else if(a==1)log 1;else if(a==2)log 2;else log 3;log 4;";
        for (int a = 0; a < 4; a++) {
            checks.runs(text, a, 0, "log" + a + " log4 | ended");
        }
        checks.runs("if(a<1){log 1;}else{log 2;}log 3;", 0, 0, "log1 log3 | ended");
        checks.runs("if(a<1)if(b<1);else;else log 2;log 3;", 0, 1, "log3 | ended");
        checks.marked("if(a<1)if(b<1);else;else;@else;", 2);
        checks.marked("if(a<1){if(b<1);}else;@else;", 2);
    }

    /** A NAME is seen behind what it is given, or behind its row. */
    private static void seenBehindItsValue(Checks checks) {
        checks.marked("int x=@x;", 3);
        checks.marked("var x=1+@x;", 3);
        checks.marked("int x=switch(a){default->{log @x;yield 1;}};", 3);
        checks.marked("for(int i=@i;;);", 3);
        checks.marked("for(int i:@i);", 3);
        checks.marked("for(int i:1,@i);", 3);
        checks.marked("log @x;int x=1;", 3);
        checks.marked("switch(a){case 1:log @x;case 2:int x=1;}", 3);
        checks.sound("int x=1;int y=x;for(int i=x;i<y;i=i+x)log i;for(int j:x,y)log j;", 6);
        checks.sound("int x=switch(a){default->{int x=1;yield x;}};log x;", 4);
        checks.sound("for(int i:switch(a){default->{int i=1;yield i;}})log i;", 4);
    }

    /** A NAME is seen up to the end of its BLOCK, GROUPS or for; behind it, it may be told again. */
    private static void seenToTheEnd(Checks checks) {
        String[] holders = {"{int x=1;log x;}", "lock(m0){int x=1;log x;}", "try{int x=1;log x;}finally{}",
            "try{}catch(e0 z){int x=1;log x;}", "try{}finally{int x=1;log x;}", "try{}catch(e0 x){log x;}",
            "try with r0{int x=1;log x;}", "switch(a){case 1:int x=1;log x;}",
            "switch(a){case 1:int x=1;default:{{log x;}}}", "for(int x=0;x<1;x++)log x;",
            "for(int x=0;x<1;x++){log x;}",
            "for(int x:1,2)log x;", "if(a<1){int x=1;}else log 1;", "while(a<1){var x=1;a++;}", "y:{int x=1;log x;}",
            "log switch(a){default->{int x=1;yield x;}};", "do{int x=1;a++;}while(a<1);"};
        for (String holder : holders) {
            StatementRules2 x = new StatementRules2();
            checks.faulty(x, holder + "log x;", 3, holder.length() + 4);
            checks.faulty(x, holder + "x++;", 3, holder.length());
            Checks.put(x, holder + "int x=2;log x;" + holder.replace('x', 'q'));
            x.read();
            checks.same("fault() of " + holder + " and x again", x.fault(), 0);
            Checks.put(x, "int x=1;" + holder);
            x.read();
            checks.same("fault() of x and " + holder, x.fault(), 4);
        }
        checks.marked("if(a<1){int x=1;}else log @x;", 3);
        checks.marked("do{int x=1;}while(@x<1);", 3);
        checks.marked("try{int x=1;}catch(e0 y){log @x;}", 3);
        checks.marked("try{}catch(e1 x){}catch(e2 y){log @x;}", 3);
        checks.marked("try{}catch(e1 x){}finally{log @x;}", 3);
        checks.marked("log switch(a){case 1->{int x=1;yield x;}default->@x;};", 3);
        checks.sound("switch(a){case 1:int x=1;case 2:x=2;default:log x;}", 4);
    }

    private static void seenAlready(Checks checks) {
        String[] tellers = {"int ?=1;", "var ?=1;", "{int ?=1;}", "lock(m0){var ?=1;}", "for(int ?=1;;)break;",
            "for(int ?:1);", "try{}catch(e0 ?){}", "try{int ?=1;}finally{}", "try{}finally{int ?=1;}",
            "switch(b){default:int ?=1;}", "log switch(b){default->{int ?=1;yield 1;}};", "x:{int ?=1;}"};
        for (String teller : tellers) {
            checks.marked(teller.replace("?", "@a"), 4);
            checks.marked(teller.replace("?", "@b"), 4);
            checks.marked("int z=1;" + teller.replace("?", "@z"), 4);
            checks.marked("for(int z=0;z<1;z++){" + teller.replace("?", "@z") + "}", 4);
            checks.marked("for(int z:1){" + teller.replace("?", "@z") + "}", 4);
            checks.marked("try{}catch(e0 z){" + teller.replace("?", "@z") + "}", 4);
            checks.marked("switch(a){case 1:int z=1;case 2:" + teller.replace("?", "@z") + "}", 4);
            StatementRules2 x = Checks.reading("{int z=1;}" + teller.replace('?', 'z'));
            checks.same("fault() of " + teller, x.fault(), 0);
        }
    }

    /** A LABEL is seen in its S; NAMES and LABELS are apart; ARMS see none that stands outside. */
    private static void labels(Checks checks) {
        checks.sound("a:;b:;a:b:;", 7);
        checks.sound("int x=1;x:while(x<2){x++;break x;}", 6);
        checks.sound("x:{int x=1;log x;break x;}", 5);
        checks.marked("x:;{break @x;}", 3);
        checks.marked("x:{}while(true)break @x;", 3);
        checks.marked("x:{}while(true)continue @x;", 3);
        checks.marked("x:while(true){@x:;}", 4);
        checks.marked("x:y:@x:;", 4);
        checks.marked("x:{log 1;y:{@x:;}}", 4);
        checks.marked("x:switch(a){case 1:@x:;}", 4);
        checks.marked("x:try{}finally{@x:;}", 4);
        checks.sound("x:log switch(a){default->{x:{yield 1;}}};", 5);
        checks.marked("x:while(true)log switch(a){default->{break @x;}};", 3);
        checks.marked("x:while(true)log switch(a){default->{while(true)continue @x;}};", 3);
        checks.marked("x:log switch(a){default->{x:@x:;yield 1;}};", 4);
        checks.sound("while(true){log switch(a){default->{yield 1;}};break;}", 5);
        checks.sound("x:while(true){log switch(a){default->{x:while(true)break x;yield 1;}};break x;}", 9);
        checks.marked("log switch(a){default->{x:;yield 1;}};break @x;", 3);
    }

    /** How many S: BLOCKS and LABELS too, but not the BLOCKS of lock, try, CATCHES, finally, ARMS. */
    private static void counts(Checks checks) {
        checks.sound("lock(m0){}", 1);
        checks.sound("lock(m0){{}}", 2);
        checks.sound("try{}catch(e1 x){}catch(e2 x){}finally{}", 1);
        checks.sound("try{{}}catch(e1 x){{}}catch(e2 x){{}}finally{{}}", 5);
        checks.sound("log switch(a){case 1->{yield 1;}default->{{yield 2;}}};", 4);
        checks.sound("switch(a){case 1:default:}", 1);
        checks.sound("for(int i=0;i<1;i++);", 2);
        checks.sound("if(a<1);else;", 3);
        checks.sound("x:y:{}", 3);
    }
}
