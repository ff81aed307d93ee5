/** Promise 12. */
public final class TraceTest {
    public static void main(String[] args) {
        Checks checks = new Checks("trace");
        sorts(checks);
        limit(checks);
        StatementRules2 x = Checks.reading("log a;");
        checks.same("before a run", x.trace(0, 0), StatementRules2.BAD);
        x.run(-8, 0);
        checks.same("the number", x.trace(0, 1), -8);
        x.run(9, 0);
        checks.same("of the latest run", x.trace(0, 1), 9);
        checks.same("i -1", x.trace(-1, 0), StatementRules2.BAD);
        checks.same("i 1", x.trace(1, 0), StatementRules2.BAD);
        checks.same("what -1", x.trace(0, -1), StatementRules2.BAD);
        checks.same("what 2", x.trace(0, 2), StatementRules2.BAD);
        x.read();
        checks.same("behind a read()", x.trace(0, 0), StatementRules2.BAD);
        x.run(0, 0);
        checks.same("of a run without rows", x.trace(0, 0), StatementRules2.BAD);
        checks.end();
    }

    private static void sorts(Checks checks) {
        StatementRules2 x = Checks.reading("lock(m5){try with r6{log 7;}}");
        x.run(0, 0);
        int[] due = {3, 5, 1, 6, 0, 7, 2, 6, 4, 5};
        checks.same("rows", x.ran(1), 5);
        for (int i = 0; i < 10; i++) {
            checks.same("row " + i / 2 + ", " + i % 2, x.trace(i / 2, i % 2), due[i]);
        }
    }

    private static void limit(Checks checks) {
        StatementRules2 x = Checks.reading("for(int i=0;i<250;i++)log i;lock(m1){}");
        checks.same("a run of 250 rows", x.run(0, 0), 0);
        checks.same("rows kept", x.ran(1), 200);
        checks.same("the last one", x.trace(199, 1), 199);
        checks.same("one more", x.trace(200, 1), StatementRules2.BAD);
        checks.same("steps of it", x.ran(0), 502);
        Checks.put(x, "for(int i=0;i<200;i++)log i;");
        x.read();
        x.run(0, 0);
        checks.same("a run of 200 rows", x.ran(1), 200);
        Checks.put(x, "for(int i=0;i<199;i++)log i;");
        x.read();
        x.run(0, 0);
        checks.same("a run of 199 rows", x.ran(1), 199);
        checks.same("row 199 of it", x.trace(199, 0), StatementRules2.BAD);
    }
}
