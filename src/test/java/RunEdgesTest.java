/** RUNNING at its edges: the 1000th STEP and the next one, the 200th row of THE TRACE, and one run behind another. */
public final class RunEdgesTest {
    public static void main(String[] args) {
        Checks checks = new Checks("run edges");
        theLastStep(checks);
        rounds(checks);
        nothingMoreIsDone(checks);
        behindSpent(checks);
        rowsOfTheTrace(checks);
        rowsWorkedOutAhead(checks);
        places(checks);
        parameters(checks);
        framesOneBehindTheOther(checks);
        whereJumpsGo(checks);
        checks.end();
    }

    /** 1 and n STEPS. */
    private static String steps(int n) {
        return "for(int i=0;i<" + n + ";i++){}";
    }

    private static void all(Checks checks, String text, int... due) {
        StatementRules2 x = Checks.reading(text);
        checks.same("fault() of " + text, x.fault(), 0);
        checks.same("run of " + text, x.run(0, 0), due[0]);
        for (int what = 0; what < 7; what++) {
            checks.same("ran(" + what + ") of " + text, x.ran(what), due[what + 1]);
        }
    }

    /** A S as the 1000th STEP is done, as the next one it is not. */
    private static void theLastStep(Checks checks) {
        all(checks, steps(999), 0, 1000, 0, 0, -1, 0, 0, 0);
        all(checks, steps(1000), 3, 1000, 0, 0, -1, 0, 0, 0);
        all(checks, steps(998) + ";", 0, 1000, 0, 0, -1, 0, 0, 0);
        all(checks, steps(999) + ";", 3, 1000, 0, 0, -1, 0, 0, 0);
        all(checks, steps(998) + "return 7;", 1, 1000, 0, 7, -1, 0, 0, 0);
        all(checks, steps(999) + "return 7;", 3, 1000, 0, 0, -1, 0, 0, 0);
        all(checks, steps(998) + "throw e2 7;", 2, 1000, 0, 0, 2, 7, 0, 0);
        all(checks, steps(999) + "throw e2 7;", 3, 1000, 0, 0, -1, 0, 0, 0);
        all(checks, steps(998) + "log 7;", 0, 1000, 1, 0, -1, 0, 0, 0);
        all(checks, steps(999) + "log 7;", 3, 1000, 0, 0, -1, 0, 0, 0);
        all(checks, steps(998) + "lock(m0){}", 0, 1000, 2, 0, -1, 0, 0, 0);
        all(checks, steps(998) + "lock(m0){;}", 3, 1000, 1, 0, -1, 0, 0, 1);
        all(checks, steps(999) + "lock(m0){}", 3, 1000, 0, 0, -1, 0, 0, 0);
        all(checks, steps(998) + "try with r0{}", 0, 1000, 2, 0, -1, 0, 0, 0);
        all(checks, steps(998) + "try with r0{;}", 3, 1000, 1, 0, -1, 0, 0, 0);
        all(checks, steps(999) + "try with r0{}", 3, 1000, 0, 0, -1, 0, 0, 0);
        all(checks, steps(999) + "{}x:y:{{}}", 0, 1000, 0, 0, -1, 0, 0, 0);
        all(checks, steps(997) + "log switch(a){default->{yield 7;}};", 0, 1000, 1, 0, -1, 0, 0, 0);
        all(checks, steps(998) + "log switch(a){default->{yield 7;}};", 3, 1000, 0, 0, -1, 0, 0, 0);
        all(checks, steps(998) + "if(a<1){}", 0, 1000, 0, 0, -1, 0, 0, 0);
        all(checks, steps(998) + "if(a<1);", 3, 1000, 0, 0, -1, 0, 0, 0);
    }

    private static void rounds(Checks checks) {
        all(checks, "while(a<500)a++;", 3, 1000, 0, 0, -1, 0, 0, 0);
        all(checks, "while(a<499)a++;;", 0, 1000, 0, 0, -1, 0, 0, 0);
        all(checks, "while(a<499)a++;;;", 3, 1000, 0, 0, -1, 0, 0, 0);
        all(checks, "do a++;while(a<500);", 3, 1000, 0, 0, -1, 0, 0, 0);
        all(checks, "do a++;while(a<499);;", 0, 1000, 0, 0, -1, 0, 0, 0);
        all(checks, "do a++;while(a<499);;;", 3, 1000, 0, 0, -1, 0, 0, 0);
        all(checks, "do{}while(true);", 3, 1000, 0, 0, -1, 0, 0, 0);
        all(checks, "for(;;){}", 3, 1000, 0, 0, -1, 0, 0, 0);
        all(checks, "while(true){}", 3, 1000, 0, 0, -1, 0, 0, 0);
        all(checks, steps(997) + "do{}while(false);", 0, 1000, 0, 0, -1, 0, 0, 0);
        all(checks, steps(998) + "do{}while(false);", 3, 1000, 0, 0, -1, 0, 0, 0);
        all(checks, steps(998) + "while(false){}", 0, 1000, 0, 0, -1, 0, 0, 0);
        all(checks, steps(998) + "for(int k:1){}", 3, 1000, 0, 0, -1, 0, 0, 0);
        all(checks, steps(997) + "for(int k:1){}", 0, 1000, 0, 0, -1, 0, 0, 0);
        all(checks, steps(998) + "for(int k:null){}", 2, 1000, 0, 0, 1, 0, 0, 0);
        all(checks, "while(a<3){a++;continue;}", 0, 10, 0, 0, -1, 0, 0, 0);
        all(checks, "x:while(a<3){a++;while(true)continue x;}", 0, 16, 0, 0, -1, 0, 0, 0);
        all(checks, "do{a++;continue;}while(a<3);", 0, 10, 0, 0, -1, 0, 0, 0);
        all(checks, "for(;;){break;}", 0, 3, 0, 0, -1, 0, 0, 0);
        all(checks, "x:for(int k:1,2){for(int j:1,2)break x;}", 0, 5, 0, 0, -1, 0, 0, 0);
        all(checks, "while(1/a<1);", 2, 1, 0, 0, 2, 0, 0, 0);
        all(checks, "do;while(1/a<1);", 2, 3, 0, 0, 2, 0, 0, 0);
    }

    /** Behind the 1000th STEP there is no catch, no finally, no closing, and no MONITOR is let go. */
    private static void nothingMoreIsDone(Checks checks) {
        String spend = "while(true);";
        checks.runs("try{" + spend + "}catch(e0 x){log 1;}finally{log 2;}", 0, 0, "| spent");
        checks.runs("try with r0,r1{" + spend + "}", 0, 0, "open0 open1 | spent");
        checks.runs("lock(m2){" + spend + "}", 0, 0, "take2 | spent");
        checks.runs("try{throw e0 1;}finally{" + spend + "}", 0, 0, "| spent");
        checks.runs("try{throw e0 1;}catch(e0 x){log x;" + spend + "}finally{log 2;}", 0, 0, "log1 | spent");
        checks.runs("log 5+switch(0){default->{log 1;while(true)b=2/a;}};", 2, 0, "log1 | spent");
        all(checks, "lock(m0){lock(m0){lock(m1){}" + spend + "}}", 3, 1000, 4, 0, -1, 0, 0, 2);
        all(checks, "lock(m0){try{return 5;}finally{" + spend + "}}", 3, 1000, 1, 0, -1, 0, 0, 1);
        all(checks, "try{lock(m0){throw e1 5;}}finally{" + spend + "}", 3, 1000, 2, 0, -1, 0, 0, 0);
        StatementRules2 x = Checks.reading("try{throw e1 5;}finally{" + spend + "}");
        x.run(0, 0);
        checks.same("suppressed when spent", x.suppressed(0, 0), StatementRules2.BAD);
    }

    /** A run behind one that was SPENT begins anew. */
    private static void behindSpent(Checks checks) {
        String text = "lock(m0){try with r0{try{while(a<1);log switch(b){default->{while(a<2);yield 6;}};}"
            + "catch(e0 x){log 8;}finally{log 9;}}}";
        StatementRules2 x = Checks.reading(text);
        String due = "take0 open0 log6 log9 close0 drop0 | ended";
        checks.sameText("before", Checks.told(x, x.run(2, 0)), due);
        for (int a = 0; a < 2; a++) {
            checks.sameText("spent", Checks.told(x, x.run(a, 0)), "take0 open0 | spent");
            checks.same("not let go", x.ran(6), 1);
            checks.sameText("behind it", Checks.told(x, x.run(2, 0)), due);
            checks.same("let go", x.ran(6), 0);
        }
        Checks.put(x, "if(a<1)return 3;lock(m1){try with r1{lock(m2){while(true);}}}");
        x.read();
        checks.sameText("spent", Checks.told(x, x.run(1, 0)), "take1 open1 take2 | spent");
        checks.sameText("returned behind it", Checks.told(x, x.run(0, 0)), "| returned 3");
        checks.same("steps of that", x.ran(0), 2);
        checks.sameText("spent", Checks.told(x, x.run(1, 0)), "take1 open1 take2 | spent");
        checks.runs(x, "throw e0 4;", 0, 0, "| threw e0 4");
        checks.runs(x, "try{throw e0 4;}catch(e0 x){throw x;}", 0, 0, "| threw e0 4");
    }

    private static void rowsOfTheTrace(Checks checks) {
        for (int logs = 198; logs <= 202; logs++) {
            StatementRules2 x = Checks.reading("for(int i=0;i<" + logs + ";i++)log i;lock(m5){}");
            checks.same("run of " + logs, x.run(0, 0), 0);
            checks.same("rows of " + logs, x.ran(1), 200);
            checks.same("the last sort of " + logs, x.trace(199, 0), logs == 198 ? 4 : logs == 199 ? 3 : 0);
            checks.same("the last number of " + logs, x.trace(199, 1), logs < 200 ? 5 : 199);
            checks.same("one more of " + logs, x.trace(200, 0), StatementRules2.BAD);
            checks.same("takings of " + logs, x.ran(6), 0);
        }
        StatementRules2 x = Checks.reading("for(int i=0;i<197;i++)log i;lock(m5){}");
        x.run(0, 0);
        checks.same("rows of 197", x.ran(1), 199);
        checks.same("row 198", x.trace(198, 0), 4);
        checks.same("row 199", x.trace(199, 0), StatementRules2.BAD);
        Checks.put(x, "for(int i=0;i<199;i++)log i;try with r3{}");
        x.read();
        x.run(0, 0);
        checks.same("opened as the last row", x.trace(199, 0) * 10 + x.trace(199, 1), 13);
        Checks.put(x, "for(int i=0;i<198;i++)log i;try with r3{}");
        x.read();
        x.run(0, 0);
        checks.same("closed as the last row", x.trace(199, 0) * 10 + x.trace(199, 1), 23);
        Checks.put(x, "for(int i=0;i<a;i++)log i;");
        x.read();
        x.run(300, 0);
        x.run(2, 0);
        checks.same("fewer rows in the next run", x.ran(1), 2);
        checks.same("row 2 of it", x.trace(2, 0), StatementRules2.BAD);
    }

    private static void rowsWorkedOutAhead(Checks checks) {
        checks.runs("for(int i:a,a+1,a+2){a=50;log i;}", 1, 0, "log1 log2 log3 | ended");
        checks.runs("for(int i:1,2,1/a)log i;", 0, 0, "| threw e2 0");
        checks.runs("for(int i:1,2,3){i=9;log i;}", 0, 0, "log9 log9 log9 | ended");
        checks.runs("for(int k:1,2){for(int i:k,a){log i;a++;}}", 5, 0, "log1 log5 log2 log7 | ended");
        checks.runs("for(int k:1,2)for(int i:7,8){if(i==7)continue;break;}log 1;", 5, 0, "log1 | ended");
        checks.runs("x:for(int k:1,2)for(int i:7,8){log i;continue x;}", 5, 0, "log7 log7 | ended");
        StatementRules2 x = Checks.reading("for(int i:a,2,b)log i;");
        checks.sameText("a row", Checks.told(x, x.run(1, 3)), "log1 log2 log3 | ended");
        checks.sameText("the row again", Checks.told(x, x.run(7, 9)), "log7 log2 log9 | ended");
    }

    /** Each NAME has a place of its own, 0 as the run begins. */
    private static void places(Checks checks) {
        checks.runs("switch(0){case 1:int x=5;default:log x;}", 0, 0, "log0 | ended");
        checks.runs("for(int k:1,2,3)switch(k){case 2:int x=5;break;default:log x;}", 0, 0, "log0 log5 | ended");
        checks.runs("for(int k:1,2)switch(k){case 1:int x=5;break;default:int y=1;log x;}", 0, 0, "log5 | ended");
        checks.runs("{int x=5;log x;}switch(0){case 1:int x=6;default:log x;}", 0, 0, "log5 log0 | ended");
        checks.runs("switch(0){case 1:int x=6;default:x++;x++;log x;}{int x=9;}log a;", 7, 0, "log2 log7 | ended");
        checks.runs("try{throw e0 4;}catch(e0 x){log x;}try{throw e0 5;}catch(e0 x){log x;}", 0, 0,
            "log4 log5 | ended");
        StatementRules2 x = Checks.reading("switch(a){case 1:int p=5;var q=6;default:log p;log q;p++;q++;}");
        checks.sameText("told", Checks.told(x, x.run(1, 0)), "log5 log6 | ended");
        checks.sameText("0 again", Checks.told(x, x.run(0, 0)), "log0 log0 | ended");
        checks.sameText("and again", Checks.told(x, x.run(0, 0)), "log0 log0 | ended");
    }

    private static void parameters(Checks checks) {
        StatementRules2 x = Checks.reading("log a;log b;a=b;b=7;log a;log b;");
        checks.sameText("lowest", Checks.told(x, x.run(Integer.MIN_VALUE, Integer.MAX_VALUE)),
            "log-2147483648 log2147483647 log2147483647 log7 | ended");
        checks.sameText("next", Checks.told(x, x.run(1, 2)), "log1 log2 log2 log7 | ended");
        checks.runs("return switch(a){default->{try{yield a;}finally{a=9;}}}+a;", 4, 0, "| returned 13");
    }

    /** A lock or a try that is behind another one, and jumps out of it. */
    private static void framesOneBehindTheOther(Checks checks) {
        String[] first = {"lock(m7){}", "try{}finally{}", "try{}catch(e0 z){}", "try{throw e0 1;}catch(e0 z){}",
            "try with r7{}", "x:{lock(m7){break x;}}", "x:{try{break x;}finally{}}", "try{}catch(e1 z){}finally{}",
            "try with r7{}catch(e0 z){}", "log switch(0){default->{lock(m7){yield 1;}}};"};
        for (String before : first) {
            StatementRules2 x = Checks.reading(before);
            String said = Checks.told(x, x.run(0, 0)).replace("| ended", "");
            checks.runs(before + "while(true){lock(m1){break;}}log 2;", 0, 0, said + "take1 drop1 log2 | ended");
            checks.runs(before + "for(int i:1,2){try{continue;}finally{log i;}}", 0, 0, said + "log1 log2 | ended");
            checks.runs(before + "try{throw e1 3;}catch(e1 y){throw y;}", 0, 0, said + "| threw e1 3");
            checks.runs(before + "lock(m1){try with r1{return 4;}finally{log 5;}}", 0, 0,
                said + "take1 open1 close1 log5 drop1 | returned 4");
            checks.runs("lock(m1){" + before + "}log 3;", 0, 0, "take1 " + said + "drop1 log3 | ended");
            checks.runs("try{" + before + "throw e1 3;}catch(e1 y){log y;}", 0, 0, said + "log3 | ended");
        }
    }

    /** To its own place, and not to the program's begin. */
    private static void whereJumpsGo(Checks checks) {
        checks.runs("log 0;do{a++;if(a==2)continue;log a;}while(a<3);log 9;", 0, 0, "log0 log1 log3 log9 | ended");
        checks.runs("log 0;while(a<3){a++;if(a==2)continue;log a;}log 9;", 0, 0, "log0 log1 log3 log9 | ended");
        checks.runs("log 0;for(;a<3;a++){if(a==1)continue;log a;}log 9;", 0, 0, "log0 log0 log2 log9 | ended");
        checks.runs("log 0;for(int i:1,2,3){if(i==2)continue;log i;}log 9;", 0, 0, "log0 log1 log3 log9 | ended");
        checks.runs("log 0;if(a<1)log 1;else log 2;log 9;", 0, 0, "log0 log1 log9 | ended");
        checks.runs("log 0;if(a<1)log 1;else log 2;log 9;", 1, 0, "log0 log2 log9 | ended");
        checks.runs("log 0;if(a<1)log 1;log 9;", 1, 0, "log0 log9 | ended");
        checks.runs("log 0;switch(a){case 5:log 1;}log 9;", 1, 0, "log0 log9 | ended");
        checks.runs("log 0;switch(a){case 1:break;default:log 1;}log 9;", 1, 0, "log0 log9 | ended");
        checks.runs("log 0;x:{break x;}log 9;", 1, 0, "log0 log9 | ended");
        checks.runs("log 0;assert false;log 9;", 1, 0, "log0 log9 | ended");
    }
}
