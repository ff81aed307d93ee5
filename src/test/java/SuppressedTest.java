/** Promise 13. */
public final class SuppressedTest {
    public static void main(String[] args) {
        Checks checks = new Checks("suppressed");
        StatementRules2 x = new StatementRules2();
        x.kind(0);
        for (int r = 0; r < 8; r++) {
            x.resource(r, 0, -1, r < 4 ? 4 : 2);
        }
        checks.runs(x, "try with r0,r5{throw e1 8;}", 0, 0, "open0 open5 close5 close0 | threw e1 8 [e2 5] [e4 0]");
        refusals(checks, x);
        checks.runs(x, "try with r0,r1,r2,r3,r4,r5,r6,r7{throw e1 8;}", 0, 0,
            "open0 open1 open2 open3 open4 open5 open6 open7 close7 close6 close5 close4 close3 close2 close1 close0"
            + " | threw e1 8 [e2 7] [e2 6] [e2 5] [e2 4] [e4 3] [e4 2] [e4 1] [e4 0]");
        Checks.put(x, "try with r0,r1,r2,r3,r4,r5,r6,r7,r1,r2{throw e1 8;}");
        x.read();
        x.run(0, 0);
        checks.same("8 at most", x.ran(5), 8);
        checks.same("the first one", x.suppressed(0, 1), 2);
        checks.same("the last one that is kept", x.suppressed(7, 1), 2);
        checks.same("i 8", x.suppressed(8, 0), StatementRules2.BAD);
        again(checks, x);
        x.run(0, 0);
        Checks.put(x, "log 1;");
        x.read();
        checks.same("behind a read()", x.suppressed(0, 0), StatementRules2.BAD);
        x.run(0, 0);
        checks.same("of a run that ended", x.suppressed(0, 0), StatementRules2.BAD);
        checks.end();
    }

    private static void refusals(Checks checks, StatementRules2 x) {
        checks.same("i -1", x.suppressed(-1, 0), StatementRules2.BAD);
        checks.same("i 2", x.suppressed(2, 0), StatementRules2.BAD);
        checks.same("what -1", x.suppressed(0, -1), StatementRules2.BAD);
        checks.same("what 2", x.suppressed(0, 2), StatementRules2.BAD);
    }

    /** What was caught is thrown again as it is, and more may come under it. */
    private static void again(Checks checks, StatementRules2 x) {
        checks.runs(x, "try{try with r1{throw e1 8;}}catch(e1 y){throw y;}", 0, 0,
            "open1 close1 | threw e1 8 [e4 1]");
        checks.runs(x, "try{try with r1{throw e1 8;}}catch(e1 y){try with r6{throw y;}}", 0, 0,
            "open1 close1 open6 close6 | threw e1 8 [e4 1] [e2 6]");
        checks.runs(x, "try{try with r1{throw e1 8;}}catch(e1 y){throw e1 y;}", 0, 0,
            "open1 close1 | threw e1 8");
        checks.runs(x, "try{try with r1{throw e1 8;}}catch(e1 y){try{throw e2 1;}catch(e2 z){throw y;}}", 0, 0,
            "open1 close1 | threw e1 8 [e4 1]");
        checks.runs(x, "try{throw e1 1;}catch(e1 y){try{try with r6{throw y;}}catch(e1 z){}throw y;}", 0, 0,
            "open6 close6 | threw e1 1 [e2 6]");
        checks.runs(x, "try with r1{throw e1 8;}finally{throw e0 3;}", 0, 0, "open1 close1 | threw e0 3");
    }
}
