/** Promise 5, and what RESOURCES do in a run. */
public final class ResourceTest {
    public static void main(String[] args) {
        Checks checks = new Checks("resource");
        answers(checks);
        opening(checks);
        closing(checks);
        later(checks);
        checks.end();
    }

    private static void answers(Checks checks) {
        StatementRules2 x = new StatementRules2();
        checks.same("as it is", x.resource(0, 0, -1, -1), 1);
        checks.same("all told", x.resource(7, 1, 3, 0), 1);
        checks.same("r -1", x.resource(-1, 0, -1, -1), StatementRules2.BAD);
        checks.same("r 8", x.resource(8, 0, -1, -1), StatementRules2.BAD);
        checks.same("isNull 2", x.resource(0, 2, -1, -1), StatementRules2.BAD);
        checks.same("isNull -1", x.resource(0, -1, -1, -1), StatementRules2.BAD);
        checks.same("opening -2", x.resource(0, 0, -2, -1), StatementRules2.BAD);
        checks.same("opening 4", x.resource(0, 0, 4, -1), StatementRules2.BAD);
        checks.same("closing -2", x.resource(0, 0, -1, -2), StatementRules2.BAD);
        checks.same("closing 4", x.resource(0, 0, -1, 4), StatementRules2.BAD);
        x.kind(0);
        checks.same("opening 4 when it is a KIND", x.resource(0, 0, 4, -1), 1);
        checks.same("closing 4 when it is a KIND", x.resource(1, 0, -1, 4), 1);
        x.resource(0, 1, 9, 1);
        checks.runs(x, "try with r0{}", 0, 0, "| threw e4 0");
    }

    private static void opening(Checks checks) {
        StatementRules2 x = new StatementRules2();
        x.kind(0);
        x.resource(1, 1, -1, 4);
        x.resource(2, 0, 4, 4);
        x.resource(3, 1, 2, -1);
        checks.runs(x, "try with r0,r1,r4{log 1;}", 0, 0, "open0 open4 log1 close4 close0 | ended");
        checks.runs(x, "try with r0,r2,r4{log 1;}", 0, 0, "open0 close0 | threw e4 2");
        checks.runs(x, "try with r3{log 1;}", 0, 0, "| threw e2 3");
        checks.runs(x, "try with r0,r2{log 1;}catch(e4 x){log x;}finally{log 9;}", 0, 0,
            "open0 close0 log2 log9 | ended");
        checks.runs(x, "try with r5,r5{log 1;}", 0, 0, "open5 open5 log1 close5 close5 | ended");
    }

    private static void closing(Checks checks) {
        StatementRules2 x = new StatementRules2();
        x.kind(0);
        x.kind(4);
        x.resource(0, 0, -1, 4);
        x.resource(1, 0, -1, 5);
        x.resource(2, 0, 3, -1);
        checks.runs(x, "try with r0{log 1;}log 2;", 0, 0, "open0 log1 close0 | threw e4 0");
        checks.runs(x, "try with r0,r1{log 1;}", 0, 0, "open0 open1 log1 close1 close0 | threw e5 1 [e4 0]");
        checks.runs(x, "try with r0,r1{throw e1 9;}", 0, 0,
            "open0 open1 close1 close0 | threw e1 9 [e5 1] [e4 0]");
        checks.runs(x, "try with r1,r2{}", 0, 0, "open1 close1 | threw e3 2 [e5 1]");
        checks.runs(x, "try with r0{return 7;}", 0, 0, "open0 close0 | threw e4 0");
        checks.runs(x, "while(true){try with r0{break;}}", 0, 0, "open0 close0 | threw e4 0");
        checks.runs(x, "try with r0,r1{}catch(e5 x){log x;}", 0, 0, "open0 open1 close1 close0 log1 | ended");
        checks.runs(x, "try with r3{return 7;}finally{log 1;}", 0, 0, "open3 close3 log1 | returned 7");
        checks.runs(x, "log switch(a){default->{try with r0{yield 1;}catch(e4 x){yield 2;}}};", 0, 0,
            "open0 close0 log2 | ended");
    }

    /** What is told behind read() counts when the program runs. */
    private static void later(Checks checks) {
        StatementRules2 x = Checks.reading("try with r6{log 1;}");
        x.resource(6, 0, -1, 2);
        checks.sameText("told before the run", Checks.told(x, x.run(0, 0)), "open6 log1 close6 | threw e2 6");
        x.resource(6, 1, -1, 2);
        checks.sameText("null before the next", Checks.told(x, x.run(0, 0)), "log1 | ended");
        x.resource(6, 0, -1, -1);
        checks.sameText("as it was", Checks.told(x, x.run(0, 0)), "open6 log1 close6 | ended");
    }
}
