/** Promise 10: throws, CATCHES, finally and locks; RESOURCES are in ResourceTest. */
public final class ThrowTest {
    public static void main(String[] args) {
        Checks checks = new Checks("throw");
        catches(checks);
        finallies(checks);
        hiding(checks);
        locks(checks);
        nested(checks);
        checks.end();
    }

    private static void catches(Checks checks) {
        StatementRules2 x = new StatementRules2();
        x.kind(0);
        x.kind(4);
        checks.runs(x, "throw e5 -3;", 0, 0, "| threw e5 -3");
        checks.runs(x, "throw e5 1/a;", 0, 0, "| threw e2 0");
        checks.runs(x, "try{throw e5 7;}catch(e1 x){log 1;}catch(e4 y){log y;}catch(e0 z){log 3;}log 4;", 0, 0,
            "log7 log4 | ended");
        checks.runs(x, "try{throw e4 7;}catch(e5 x){log 1;}log 4;", 0, 0, "| threw e4 7");
        checks.runs(x, "try{throw e4 7;}catch(e1|e2|e4 x){log x;}", 0, 0, "log7 | ended");
        checks.runs(x, "try{log 1/a;}catch(e2 x){log x;}", 0, 0, "log0 | ended");
        checks.runs(x, "try{lock(null){}}catch(e1 x){log x;}", 0, 0, "log0 | ended");
        checks.runs(x, "try{throw e0 1;}catch(e1 x){log 1;}catch(e0 y){throw y;}", 0, 0, "| threw e0 1");
        checks.runs(x, "try{throw e1 1;}catch(e1 x){throw e2 x+1;}catch(e2 y){log 2;}", 0, 0, "| threw e2 2");
        checks.runs(x, "try{log 1;}catch(e0 x){log 2;}log 3;", 0, 0, "log1 log3 | ended");
        checks.runs(x, "for(int i:1,2,3){try{throw e0 i;}catch(e0 x){if(x==2)continue;log x;}}", 0, 0,
            "log1 log3 | ended");
    }

    private static void finallies(Checks checks) {
        checks.runs("try{log 1;}finally{log 2;}log 3;", 0, 0, "log1 log2 log3 | ended");
        checks.runs("try{return a;}finally{a=9;log 2;}", 5, 0, "log2 | returned 5");
        checks.runs("try{throw e0 a;}finally{log 2;}", 5, 0, "log2 | threw e0 5");
        checks.runs("try{throw e0 a;}catch(e0 x){return x;}finally{log 2;}", 5, 0, "log2 | returned 5");
        checks.runs("try{throw e0 a;}catch(e0 x){throw e1 x+1;}finally{log 2;}", 5, 0, "log2 | threw e1 6");
        checks.runs("while(true){try{break;}finally{log 2;}}log 3;", 5, 0, "log2 log3 | ended");
        checks.runs("for(int i:1,2){try{continue;}finally{log i;}}", 5, 0, "log1 log2 | ended");
        checks.runs("x:{try{try{break x;}finally{log 1;}}finally{log 2;}}log 3;", 5, 0, "log1 log2 log3 | ended");
        checks.runs("x:while(a<3){a++;try{while(true){try{continue x;}finally{log 1;}}}finally{log a;}}", 1, 0,
            "log1 log2 log1 log3 | ended");
    }

    private static void hiding(Checks checks) {
        checks.runs("try{throw e0 1;}finally{return 7;}", 0, 0, "| returned 7");
        checks.runs("try{return 1;}finally{throw e1 7;}", 0, 0, "| threw e1 7");
        checks.runs("try{throw e0 1;}finally{throw e1 7;}", 0, 0, "| threw e1 7");
        checks.runs("while(true){try{return 1;}finally{break;}}log 3;", 0, 0, "log3 | ended");
        checks.runs("x:{try{throw e0 1;}finally{break x;}}log 3;", 0, 0, "log3 | ended");
        checks.runs("for(int i:1,2){try{throw e0 1;}finally{log i;continue;}}log 3;", 0, 0, "log1 log2 log3 | ended");
        checks.runs("try{try{throw e0 1;}finally{throw e1 7;}}catch(e1 x){log x;}", 0, 0, "log7 | ended");
        checks.runs("try{return 1;}finally{while(true)break;try{throw e1 2;}catch(e1 x){}}", 0, 0, "| returned 1");
    }

    private static void locks(Checks checks) {
        checks.runs("lock(m3){log 1;}log 2;", 0, 0, "take3 log1 drop3 log2 | ended");
        checks.runs("lock(m3){lock(m3){return 1;}}", 0, 0, "take3 take3 drop3 drop3 | returned 1");
        checks.runs("lock(m3){throw e0 1;}", 0, 0, "take3 drop3 | threw e0 1");
        checks.runs("while(true)lock(m0){break;}log 1;", 0, 0, "take0 drop0 log1 | ended");
        checks.runs("for(int i:1,2)lock(m7){continue;}", 0, 0, "take7 drop7 take7 drop7 | ended");
        checks.runs("lock(null){log 1;}", 0, 0, "| threw e1 0");
        checks.runs("lock(m1){lock(null){log 1;}}", 0, 0, "take1 drop1 | threw e1 0");
        checks.runs("try{lock(m1){throw e0 1;}}catch(e0 x){log x;}finally{log 2;}", 0, 0,
            "take1 drop1 log1 log2 | ended");
        checks.runs("lock(m1){try{return 1;}finally{log 2;}}", 0, 0, "take1 log2 drop1 | returned 1");
    }

    private static void nested(Checks checks) {
        checks.runs("try{throw e1 1;}catch(e1 x){try{throw e2 2;}catch(e2 y){log x;log y;throw x;}}", 0, 0,
            "log1 log2 | threw e1 1");
        checks.runs("try{throw e1 1;}catch(e1 x){try{throw e2 2;}finally{throw x;}}", 0, 0, "| threw e1 1");
        checks.runs("try{throw e1 1;}catch(e1 x){try{throw x;}catch(e1 y){log y;}log x;}", 0, 0,
            "log1 log1 | ended");
        checks.runs("try{throw e1 1;}catch(e1 x){log switch(a){default->{throw x;}};}", 0, 0, "| threw e1 1");
        StringBuilder deep = new StringBuilder("throw e0 1;");
        for (int i = 0; i < 20; i++) {
            deep.insert(0, "try{").append("}finally{a++;}");
        }
        StatementRules2 x = Checks.reading(deep.toString());
        checks.same("20 finallies", x.run(0, 0), 2);
        checks.same("steps of them", x.ran(0), 41);
    }
}
