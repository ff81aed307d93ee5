/** Promise 11. */
public final class RanTest {
    public static void main(String[] args) {
        Checks checks = new Checks("ran");
        all(checks, "", 0, 0, 0, 0, 0, -1, 0, 0, 0);
        all(checks, "log 1;log 2;return 7;", 0, 0, 3, 2, 7, -1, 0, 0, 0);
        all(checks, "return 0;", 0, 0, 1, 0, 0, -1, 0, 0, 0);
        all(checks, "throw e2 5;", 0, 0, 1, 0, 0, 2, 5, 0, 0);
        all(checks, "lock(m1){lock(m1){while(true);}}", 0, 0, 1000, 2, 0, -1, 0, 0, 2);
        all(checks, "lock(m1){throw e0 -4;}", 0, 0, 2, 2, 0, 0, -4, 0, 0);
        all(checks, "try{return 5;}finally{while(true);}", 0, 0, 1000, 0, 0, -1, 0, 0, 0);
        all(checks, "try{throw e1 5;}finally{while(true);}", 0, 0, 1000, 0, 0, -1, 0, 0, 0);
        all(checks, "try{return 5;}catch(e0 x){}finally{throw e3 2;}", 0, 0, 3, 0, 0, 3, 2, 0, 0);
        steps(checks);
        refusals(checks);
        checks.end();
    }

    private static void all(Checks checks, String text, int a, int b, int... due) {
        StatementRules2 x = Checks.reading(text);
        x.run(a, b);
        for (int what = 0; what < 7; what++) {
            checks.same("ran(" + what + ") of " + text, x.ran(what), due[what]);
        }
    }

    private static void steps(Checks checks) {
        stepsOf(checks, ";", 0, 1);
        stepsOf(checks, "{{;}}", 0, 1);
        stepsOf(checks, "x:y:;", 0, 1);
        stepsOf(checks, "if(a<1);", 0, 2);
        stepsOf(checks, "if(a<1);", 1, 1);
        stepsOf(checks, "if(a<1);else{;;}", 1, 3);
        stepsOf(checks, "while(a<3)a++;", 0, 7);
        stepsOf(checks, "while(a<3)a++;", 3, 1);
        stepsOf(checks, "do a++;while(a<3);", 0, 7);
        stepsOf(checks, "do a++;while(a<3);", 5, 3);
        stepsOf(checks, "for(int i=0;i<2;i++);", 0, 5);
        stepsOf(checks, "for(int i:1,2,3);", 0, 7);
        stepsOf(checks, "for(int i:1,2,3){}", 0, 4);
        stepsOf(checks, "for(int i:null);", 0, 1);
        stepsOf(checks, "switch(a){case 0:;case 1:;}", 0, 3);
        stepsOf(checks, "switch(a){case 0:;case 1:;}", 1, 2);
        stepsOf(checks, "lock(m0){;}", 0, 2);
        stepsOf(checks, "try{;}catch(e0 x){;}finally{;}", 0, 3);
        stepsOf(checks, "a=switch(a){default->{;yield 1;}};", 0, 3);
        stepsOf(checks, "a=switch(a){default->1;};", 0, 1);
    }

    private static void stepsOf(Checks checks, String text, int a, int due) {
        StatementRules2 x = Checks.reading(text);
        x.run(a, 0);
        checks.same("STEPS of " + text + " with " + a, x.ran(0), due);
    }

    private static void refusals(Checks checks) {
        StatementRules2 x = new StatementRules2();
        checks.same("none was", x.ran(0), StatementRules2.NO);
        checks.same("what 7, none was", x.ran(7), StatementRules2.BAD);
        Checks.put(x, "return a;");
        x.read();
        checks.same("none was since read()", x.ran(0), StatementRules2.NO);
        x.run(5, 0);
        checks.same("what 2", x.ran(2), 5);
        checks.same("what 7", x.ran(7), StatementRules2.BAD);
        checks.same("what -1", x.ran(-1), StatementRules2.BAD);
        x.run(6, 0);
        checks.same("the latest run", x.ran(2), 6);
        Checks.put(x, "return 1");
        checks.same("before the next read()", x.ran(2), 6);
        x.read();
        checks.same("behind a read() with a fault", x.ran(2), StatementRules2.NO);
        checks.same("run() behind it", x.run(0, 0), StatementRules2.NO);
        checks.same("and ran()", x.ran(2), StatementRules2.NO);
    }
}
