/** THROWN, SUPPRESSED, CATCHES, lock and RESOURCES at their edges. */
public final class ThrownEdgesTest {
    public static void main(String[] args) {
        Checks checks = new Checks("thrown edges");
        numbers(checks);
        theFirstThatFits(checks);
        again(checks);
        hidden(checks);
        behindFinally(checks);
        locks(checks);
        suppressedCounts(checks);
        suppressedOfNested(checks);
        openings(checks);
        closings(checks);
        nothingWasThrown(checks);
        asserts(checks);
        checks.end();
    }

    /** KINDS 4 .. 11, each above the next one; closing of RESOURCE r throws e(4 + r), from 4 on nothing. */
    private static StatementRules2 told() {
        StatementRules2 x = new StatementRules2();
        x.kind(0);
        for (int above = 4; above < 11; above++) {
            x.kind(above);
        }
        for (int r = 0; r < 4; r++) {
            x.resource(r, 0, -1, 4 + r);
        }
        return x;
    }

    private static void numbers(Checks checks) {
        checks.runs("throw e0 a;", Integer.MIN_VALUE, 0, "| threw e0 -2147483648");
        checks.runs("throw e3 a+1;", Integer.MAX_VALUE, 0, "| threw e3 -2147483648");
        checks.runs("throw e1 5;", 0, 0, "| threw e1 5");
        checks.runs("throw e2 -5;", 0, 0, "| threw e2 -5");
        checks.runs("throw e0 0;", 0, 0, "| threw e0 0");
        checks.runs("lock(null){}", 5, 5, "| threw e1 0");
        checks.runs("for(int i:null);", 5, 5, "| threw e1 0");
        checks.runs("log a/b;", 5, 0, "| threw e2 0");
        checks.runs("log a%b;", 5, 0, "| threw e2 0");
        checks.runs("throw e1 a/b;", 5, 0, "| threw e2 0");
        checks.runs("return a/b;", 5, 0, "| threw e2 0");
        checks.runs("try{throw e0 a;}catch(e0 x){log x;}", Integer.MIN_VALUE, 0, "log-2147483648 | ended");
    }

    private static void theFirstThatFits(Checks checks) {
        for (int thrown = 4; thrown < 12; thrown++) {
            StatementRules2 x = told();
            for (int caught = 4; caught < 12; caught++) {
                String text = "try{throw e" + thrown + " 7;}catch(e" + caught + " x){log x;}";
                checks.runs(x, text, 0, 0, thrown >= caught ? "log7 | ended" : "| threw e" + thrown + " 7");
            }
            checks.runs(x, "try{throw e" + thrown + " 7;}catch(e0 x){log x;}", 0, 0, "log7 | ended");
            checks.runs(x, "try{throw e" + thrown + " 7;}catch(e1|e2|e3 x){log x;}", 0, 0, "| threw e" + thrown + " 7");
        }
        String many = "try{throw e? 7;}catch(e1|e11 x){log 1;}catch(e2|e8 x){log 2;}catch(e3|e4 x){log 3;}"
            + "catch(e0 x){log 4;}";
        int[] due = {4, 1, 2, 3, 3, 3, 3, 3, 2, 2, 2, 1};
        for (int kind = 0; kind < 12; kind++) {
            checks.runs(told(), many.replace("?", "" + kind), 0, 0, "log" + due[kind] + " | ended");
        }
        checks.runs("try{throw e0 7;}catch(e1|e2|e3 x){log 1;}", 0, 0, "| threw e0 7");
        checks.runs("try{try{throw e1 7;}catch(e2 x){log 1;}}catch(e1 y){log y;}", 0, 0, "log7 | ended");
        checks.runs("try{throw e1 7;}catch(e1 x){throw e2 8;}catch(e2 y){log 1;}", 0, 0, "| threw e2 8");
    }

    /** throw NAME: what was caught, whatever was thrown since. */
    private static void again(Checks checks) {
        checks.runs("try{throw e1 1;}catch(e0 x){throw x;}", 0, 0, "| threw e1 1");
        checks.runs("try{throw e1 1;}catch(e0 x){try{throw e2 2;}catch(e0 y){try{throw e3 3;}catch(e0 z){throw x;}}}",
            0, 0, "| threw e1 1");
        checks.runs("try{throw e1 1;}catch(e0 x){try{throw e2 2;}catch(e0 y){try{throw e3 3;}catch(e0 z){throw y;}}}",
            0, 0, "| threw e2 2");
        checks.runs("try{throw e1 1;}catch(e0 x){try{throw x;}catch(e0 y){try{throw e3 3;}catch(e0 z){throw y;}}}",
            0, 0, "| threw e1 1");
        checks.runs("try{throw e1 1;}catch(e0 x){for(int i:1,2,3){try{throw e2 i;}catch(e2 y){log y;}}throw x;}",
            0, 0, "log1 log2 log3 | threw e1 1");
        checks.runs("try{throw e1 1;}catch(e0 x){try{throw e2 2;}finally{throw x;}}", 0, 0, "| threw e1 1");
        checks.runs("try{throw e1 1;}catch(e0 x){lock(m0){throw x;}}finally{log 1/a;}", 0, 0,
            "take0 drop0 | threw e2 0");
        checks.runs("try{log 1/a;}catch(e2 x){throw x;}", 0, 0, "| threw e2 0");
        checks.runs("for(int i:1,2){try{throw e1 i;}catch(e1 x){if(x==2)throw x;}}", 0, 0, "| threw e1 2");
    }

    /** finally's own jump, THROWN hides what came before it. */
    private static void hidden(Checks checks) {
        String[] befores = {"log 1;", "return 1;", "throw e1 1;", "if(a<1)break;", "if(a<1)continue;", "log 1/a;"};
        for (String before : befores) {
            String logs = before.equals("log 1;") ? "log1 " : "";
            String head = "for(int i:1){try{" + before + "}";
            checks.runs(head + "finally{return 2;}}", 0, 0, logs + "| returned 2");
            checks.runs(head + "finally{throw e3 2;}}", 0, 0, logs + "| threw e3 2");
            checks.runs(head + "finally{break;}}log 5;", 0, 0, logs + "log5 | ended");
            checks.runs(head + "finally{continue;}}log 5;", 0, 0, logs + "log5 | ended");
            checks.runs("x:{" + head + "finally{break x;}}}log 5;", 0, 0, logs + "log5 | ended");
            checks.runs("try{" + head + "finally{throw e3 2;}}}catch(e3 x){log x;}", 0, 0, logs + "log2 | ended");
            checks.runs(head + "catch(e0 x){throw e0 6;}finally{return 2;}}", 0, 0, logs + "| returned 2");
        }
        StatementRules2 x = told();
        checks.runs(x, "try with r0,r1{throw e1 1;}finally{return 2;}", 0, 0,
            "open0 open1 close1 close0 | returned 2");
        checks.same("suppressed of what is hidden", x.ran(5), 0);
        checks.runs(x, "try with r0,r1{throw e1 1;}finally{throw e2 3;}", 0, 0,
            "open0 open1 close1 close0 | threw e2 3");
    }

    /** What came before a finally goes on behind it, whatever was thrown and caught, or left, in it. */
    private static void behindFinally(Checks checks) {
        String[] inners = {"try{throw e3 9;}catch(e3 y){}", "while(true)break;", "x:{lock(m0){break x;}}",
            "try{try{throw e3 9;}finally{log 8;}}catch(e3 y){}", "a=switch(0){default->{yield 1;}};",
            "try{throw e2 9;}finally{break z;}", "for(int k:1,2)try{continue;}finally{}"};
        for (String inner : inners) {
            String last = "finally{z:{" + inner + "}log 7;}";
            String said = inner.contains("lock") ? "take0 drop0 log7 "
                : inner.contains("log 8") ? "log8 log7 " : "log7 ";
            checks.runs("try{throw e1 5;}" + last, 0, 0, said + "| threw e1 5");
            checks.runs("try{return 5;}" + last, 0, 0, said + "| returned 5");
            checks.runs("try{a=1;}" + last + "log 6;", 0, 0, said + "log6 | ended");
            checks.runs("for(int i:1,2){try{break;}" + last + "}log 6;", 0, 0, said + "log6 | ended");
            checks.runs("for(int i:1,2){try{continue;}" + last + "}log 6;", 0, 0, said + said + "log6 | ended");
            checks.runs("return 1+switch(0){default->{try{yield 5;}" + last + "}};", 0, 0, said + "| returned 6");
            checks.runs("try{throw e1 5;}catch(e1 x){throw e2 x;}" + last, 0, 0, said + "| threw e2 5");
            checks.runs("try{throw e1 5;}catch(e1 x){log x;}" + last, 0, 0, "log5 " + said + "| ended");
        }
    }

    /** A MONITOR is let go in any case. */
    private static void locks(Checks checks) {
        String held = "take1 drop1 ";
        checks.runs("lock(m1){}", 0, 0, held + "| ended");
        checks.runs("lock(m1){return 1;}", 0, 0, held + "| returned 1");
        checks.runs("lock(m1){throw e0 1;}", 0, 0, held + "| threw e0 1");
        checks.runs("lock(m1){log 1/a;}", 0, 0, held + "| threw e2 0");
        checks.runs("lock(m1){lock(null){}}", 0, 0, held + "| threw e1 0");
        checks.runs("while(true)lock(m1){break;}", 0, 0, held + "| ended");
        checks.runs("for(int i:1,2)lock(m1){continue;}", 0, 0, held + held + "| ended");
        checks.runs("x:lock(m1){while(true)break x;}", 0, 0, held + "| ended");
        checks.runs("switch(a){default:lock(m1){break;}}", 0, 0, held + "| ended");
        checks.runs("log switch(a){default->{lock(m1){yield 2;}}};", 0, 0, held + "log2 | ended");
        checks.runs("lock(m1){lock(m1){lock(m1){}}}", 0, 0, "take1 take1 take1 drop1 drop1 drop1 | ended");
        checks.runs("x:{lock(m0){lock(m1){lock(m2){break x;}}}}", 0, 0, "take0 take1 take2 drop2 drop1 drop0 | ended");
        checks.runs("lock(m0){x:{lock(m1){break x;}}log 1;}", 0, 0, "take0 take1 drop1 log1 drop0 | ended");
        checks.runs("try{lock(m1){return 5;}}finally{log 1;}", 0, 0, held + "log1 | returned 5");
        checks.runs("lock(m1){try{throw e0 1;}finally{log 1;}}", 0, 0, "take1 log1 drop1 | threw e0 1");
    }

    /** 8 at most; others are lost. */
    private static void suppressedCounts(Checks checks) {
        StatementRules2 x = told();
        for (int many = 0; many <= 12; many++) {
            StringBuilder text = new StringBuilder("try with r4");
            for (int i = 0; i < many; i++) {
                text.append(",r").append(i % 4);
            }
            Checks.put(x, text + "{throw e1 9;}");
            x.read();
            checks.same("run with " + many, x.run(0, 0), 2);
            checks.same("its KIND", x.ran(3), 1);
            checks.same("its number", x.ran(4), 9);
            int kept = Math.min(many, 8);
            checks.same("suppressed of " + many, x.ran(5), kept);
            for (int i = 0; i < kept; i++) {
                int r = (many - 1 - i) % 4;
                checks.same("KIND " + i + " of " + many, x.suppressed(i, 0), 4 + r);
                checks.same("number " + i + " of " + many, x.suppressed(i, 1), r);
            }
            checks.same("one more of " + many, x.suppressed(kept, 0), StatementRules2.BAD);
            checks.same("none before of " + many, x.suppressed(-1, 1), StatementRules2.BAD);
        }
    }

    private static void suppressedOfNested(Checks checks) {
        StatementRules2 x = told();
        checks.runs(x, "try with r0{try with r1{throw e1 9;}}", 0, 0,
            "open0 open1 close1 close0 | threw e1 9 [e5 1] [e4 0]");
        checks.runs(x, "try with r0{try with r1{}}", 0, 0, "open0 open1 close1 close0 | threw e5 1 [e4 0]");
        checks.runs(x, "try with r0,r4{try with r5{log 1;}log 2;}", 0, 0,
            "open0 open4 open5 log1 close5 log2 close4 close0 | threw e4 0");
        checks.runs(x, "try with r0{try with r1{throw e1 9;}catch(e1 y){log y;}}", 0, 0,
            "open0 open1 close1 log9 close0 | threw e4 0");
        checks.runs(x, "try with r0{try with r1{throw e1 9;}catch(e1 y){throw y;}}", 0, 0,
            "open0 open1 close1 close0 | threw e1 9 [e5 1] [e4 0]");
        checks.runs(x, "try with r0{try with r1{throw e1 9;}catch(e1 y){throw e1 y;}}", 0, 0,
            "open0 open1 close1 close0 | threw e1 9 [e4 0]");
        checks.runs(x, "try{throw e1 9;}catch(e1 y){try with r0,r1,r2,r3,r0,r1{throw y;}"
            + "catch(e1 z){try with r3,r2,r1{throw z;}}}", 0, 0,
            "open0 open1 open2 open3 open0 open1 close1 close0 close3 close2 close1 close0 open3 open2 open1 "
            + "close1 close2 close3 | threw e1 9 [e5 1] [e4 0] [e7 3] [e6 2] [e5 1] [e4 0] [e5 1] [e6 2]");
        checks.runs(x, "for(int i:1,2){try with r0{throw e1 i;}catch(e1 y){if(i==2)throw y;}}", 0, 0,
            "open0 close0 open0 close0 | threw e1 2 [e4 0]");
    }

    private static void openings(Checks checks) {
        StatementRules2 x = told();
        x.resource(4, 0, 0, -1);
        x.resource(5, 1, -1, 4);
        x.resource(6, 1, 11, 4);
        x.resource(7, 0, 11, 11);
        checks.runs(x, "try with r4{log 1;}", 0, 0, "| threw e0 4");
        checks.runs(x, "try with r5{log 1;}", 0, 0, "log1 | ended");
        checks.runs(x, "try with r5,r5,r5{log 1;}finally{log 2;}", 0, 0, "log1 log2 | ended");
        checks.runs(x, "try with r6{log 1;}", 0, 0, "| threw e11 6");
        checks.runs(x, "try with r7{log 1;}", 0, 0, "| threw e11 7");
        checks.runs(x, "try with r4,r0{log 1;}", 0, 0, "| threw e0 4");
        checks.runs(x, "try with r0,r4{log 1;}", 0, 0, "open0 close0 | threw e0 4 [e4 0]");
        checks.runs(x, "try with r0,r5,r1,r7,r2{log 1;}", 0, 0,
            "open0 open1 close1 close0 | threw e11 7 [e5 1] [e4 0]");
        checks.runs(x, "try with r0,r7{log 1;}catch(e11 y){log y;}finally{log 2;}", 0, 0,
            "open0 close0 log7 log2 | ended");
        checks.runs(x, "try with r7{log 1;}catch(e1 y){log y;}finally{log 2;}", 0, 0, "log2 | threw e11 7");
        checks.runs(x, "try with r0{try with r7{log 1;}}", 0, 0, "open0 close0 | threw e11 7 [e4 0]");
    }

    private static void closings(Checks checks) {
        StatementRules2 x = told();
        x.resource(4, 0, -1, 0);
        checks.runs(x, "try with r4{log 1;}", 0, 0, "open4 log1 close4 | threw e0 4");
        checks.runs(x, "try with r4{throw e1 1;}", 0, 0, "open4 close4 | threw e1 1 [e0 4]");
        checks.runs(x, "try with r4{return 1;}", 0, 0, "open4 close4 | threw e0 4");
        checks.runs(x, "while(true)try with r4{break;}", 0, 0, "open4 close4 | threw e0 4");
        checks.runs(x, "for(int i:1,2)try with r4{continue;}", 0, 0, "open4 close4 | threw e0 4");
        checks.runs(x, "x:try with r4{while(true)break x;}", 0, 0, "open4 close4 | threw e0 4");
        checks.runs(x, "log switch(0){default->{try with r4{yield 1;}}};", 0, 0, "open4 close4 | threw e0 4");
        checks.runs(x, "try with r4{return 1;}catch(e0 y){log y;}finally{log 2;}log 3;", 0, 0,
            "open4 close4 log4 log2 log3 | ended");
        checks.runs(x, "try with r5{return 1;}catch(e0 y){log y;}finally{log 2;}", 0, 0,
            "open5 close5 log2 | returned 1");
        checks.runs(x, "lock(m0){try with r5{throw e1 1;}}", 0, 0, "take0 open5 close5 drop0 | threw e1 1");
        checks.runs(x, "try with r5,r6{try{throw e1 1;}finally{log 1;}}catch(e1 y){log y;}", 0, 0,
            "open5 open6 log1 close6 close5 log1 | ended");
        checks.runs(x, "try{try with r0{return 1;}}finally{log 1;}", 0, 0, "open0 close0 log1 | threw e4 0");
    }

    /** What was caught before does not count when a closing throws. */
    private static void nothingWasThrown(Checks checks) {
        StatementRules2 x = told();
        checks.runs(x, "try{throw e1 1;}catch(e1 y){}try with r0{}", 0, 0, "open0 close0 | threw e4 0");
        checks.runs(x, "try{throw e1 1;}catch(e1 y){try with r0{}}", 0, 0, "open0 close0 | threw e4 0");
        checks.runs(x, "try{throw e1 1;}catch(e1 y){try with r0{return 3;}}", 0, 0, "open0 close0 | threw e4 0");
        checks.runs(x, "try{throw e1 1;}finally{try with r0{}}", 0, 0, "open0 close0 | threw e4 0");
        checks.runs(x, "try{throw e1 1;}finally{try with r0{}catch(e4 y){}}", 0, 0, "open0 close0 | threw e1 1");
        checks.runs(x, "try with r0{try{throw e1 1;}catch(e1 y){}}", 0, 0, "open0 close0 | threw e4 0");
        checks.runs(x, "try with r0{try{throw e1 1;}finally{while(true)break;}}", 0, 0,
            "open0 close0 | threw e1 1 [e4 0]");
        checks.runs(x, "x:{try with r0{try{throw e1 1;}finally{break x;}}}", 0, 0, "open0 close0 | threw e4 0");
    }

    private static void asserts(Checks checks) {
        StatementRules2 x = new StatementRules2();
        checks.runs(x, "assert 1/a<1:1/a;log 1;", 0, 0, "log1 | ended");
        checks.same("an assert that is off is one STEP", x.ran(0), 2);
        x.asserts(true);
        checks.runs(x, "assert true;assert true:1/a;log 1;", 0, 0, "log1 | ended");
        checks.runs(x, "assert false;", 0, 0, "| threw e3 0");
        checks.runs(x, "assert false:a;", Integer.MIN_VALUE, 0, "| threw e3 -2147483648");
        checks.runs(x, "assert false:1/a;", 0, 0, "| threw e2 0");
        checks.runs(x, "assert 1/a<1:5;", 0, 0, "| threw e2 0");
        checks.runs(x, "lock(m0){try{assert a<b:7;}catch(e3 y){log y;}finally{log 1;}}", 2, 1,
            "take0 log7 log1 drop0 | ended");
    }
}
