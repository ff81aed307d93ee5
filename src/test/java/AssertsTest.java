/** Promise 6. */
public final class AssertsTest {
    public static void main(String[] args) {
        Checks checks = new Checks("asserts");
        StatementRules2 x = new StatementRules2();
        checks.same("on, at first", x.asserts(true), 0);
        checks.same("on, again", x.asserts(true), 1);
        checks.runs(x, "assert a<1;log 1;", 0, 0, "log1 | ended");
        checks.runs(x, "assert a<1;log 1;", 1, 0, "| threw e3 0");
        checks.runs(x, "assert a<1:a*7;log 1;", 3, 0, "| threw e3 21");
        checks.runs(x, "assert a<1:1/b;", 3, 0, "| threw e2 0");
        checks.runs(x, "assert 1/b<1;", 3, 0, "| threw e2 0");
        checks.runs(x, "try{assert false:5;}catch(e3 x){log x;}", 3, 0, "log5 | ended");
        checks.same("off", x.asserts(false), 1);
        checks.same("off, again", x.asserts(false), 0);
        checks.runs(x, "assert a<1:1/b;log 1;", 1, 0, "log1 | ended");
        checks.runs(x, "assert 1/b<1;", 3, 0, "| ended");
        checks.same("an assert that is off is a step", x.ran(0), 1);
        Checks.put(x, "assert a<1;");
        x.read();
        x.asserts(true);
        checks.same("on behind read()", x.run(1, 0), 2);
        checks.same("a refused call", x.program(9), StatementRules2.BAD);
        checks.same("leaves it on", x.asserts(false), 1);
        checks.same("off behind read()", x.run(1, 0), 0);
        checks.end();
    }
}
