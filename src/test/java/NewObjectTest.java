/** Promise 1. */
public final class NewObjectTest {
    public static void main(String[] args) {
        Checks checks = new Checks("new object");
        StatementRules2 x = new StatementRules2();
        checks.same("fault()", x.fault(), 0);
        for (int what = 0; what < 4; what++) {
            checks.same("program(" + what + ")", x.program(what), StatementRules2.NO);
        }
        checks.same("run(1, 2)", x.run(1, 2), StatementRules2.NO);
        for (int what = 0; what < 7; what++) {
            checks.same("ran(" + what + ")", x.ran(what), StatementRules2.NO);
        }
        checks.same("trace(0, 0)", x.trace(0, 0), StatementRules2.BAD);
        checks.same("suppressed(0, 0)", x.suppressed(0, 0), StatementRules2.BAD);
        checks.same("cut(0)", x.cut(0), 0);
        checks.same("cut(1)", x.cut(1), StatementRules2.BAD);
        checks.same("asserts(false)", x.asserts(false), 0);
        checks.same("kind 3", x.under(3, 3), 1);
        checks.same("kind 4", x.under(4, 4), StatementRules2.BAD);
        checks.same("read()", x.read(), 0);
        checks.same("the constants", StatementRules2.BAD * 100 + StatementRules2.FULL * 10 + StatementRules2.NO, -123);
        checks.runs("try with r0,r1,r2,r3,r4,r5,r6,r7{}", 0, 0, "open0 open1 open2 open3 open4 open5 open6 open7 "
            + "close7 close6 close5 close4 close3 close2 close1 close0 | ended");
        checks.runs("assert false;", 0, 0, "| ended");
        apart(checks);
        checks.end();
    }

    /** What one object is told, another one does not know. */
    private static void apart(Checks checks) {
        StatementRules2 x = new StatementRules2();
        StatementRules2 y = new StatementRules2();
        x.kind(0);
        x.asserts(true);
        Checks.put(x, "log 1;");
        checks.same("under(4, 4) of another one", y.under(4, 4), StatementRules2.BAD);
        checks.same("asserts of another one", y.asserts(false), 0);
        checks.same("read() of another one", y.read(), 0);
        checks.same("read() of this one", x.read(), 1);
    }
}
