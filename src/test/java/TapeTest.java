/** Promises 2 and 3. */
public final class TapeTest {
    private static final int BLANKS = 0x20202020;

    public static void main(String[] args) {
        Checks checks = new Checks("tape");
        bytes(checks);
        full(checks);
        cuts(checks);
        checks.end();
    }

    private static void bytes(Checks checks) {
        StatementRules2 x = new StatementRules2();
        checks.same("the first feed", x.feed(0x6c6f6720, 0x3132332b, 0x343b6c6f, 0x6720613b, 0x20200a20), 20);
        checks.same("read() of 'log 123+4;log a;'", x.read(), 2);
        checks.same("run", x.run(-5, 0), 0);
        checks.same("trace(0, 1)", x.trace(0, 1), 127);
        checks.same("trace(1, 1)", x.trace(1, 1), -5);
        checks.same("a feed behind read()", x.feed(BLANKS, BLANKS, BLANKS, BLANKS, BLANKS), 20);
        checks.same("the next one", x.feed(-1, Integer.MIN_VALUE, 0, 1, Integer.MAX_VALUE), 40);
        checks.same("read() of bytes that are none", x.read(), -30);
        checks.same("their fault", x.fault(), 1);
    }

    private static void full(Checks checks) {
        StatementRules2 x = new StatementRules2();
        for (int n = 20; n <= 900; n += 20) {
            checks.same("feed to " + n, x.feed(BLANKS, BLANKS, BLANKS, BLANKS, 0x2020203b), n);
        }
        checks.same("feed above 900", x.feed(0, 0, 0, 0, 0), StatementRules2.FULL);
        checks.same("cut to 881", x.cut(881), 19);
        checks.same("feed above 900 by 1", x.feed(0, 0, 0, 0, 0), StatementRules2.FULL);
        checks.same("cut to 880", x.cut(880), 1);
        checks.same("feed to 900 again", x.feed(0x3b202020, BLANKS, BLANKS, BLANKS, BLANKS), 900);
        checks.same("read() of 45 empty statements", x.read(), 45);
        checks.same("the tape is empty", x.cut(0), 0);
    }

    private static void cuts(Checks checks) {
        StatementRules2 x = new StatementRules2();
        checks.same("cut(-1)", x.cut(-1), StatementRules2.BAD);
        checks.same("cut(1) of nothing", x.cut(1), StatementRules2.BAD);
        Checks.put(x, "log 1;log 2;log 3");
        checks.same("cut(18) of 17", x.cut(18), StatementRules2.BAD);
        checks.same("cut(-1) of 17", x.cut(-1), StatementRules2.BAD);
        checks.same("cut(lowest)", x.cut(Integer.MIN_VALUE), StatementRules2.BAD);
        checks.same("cut(17) of 17", x.cut(17), 0);
        checks.same("cut(12) of 17", x.cut(12), 5);
        checks.same("cut(13) of 12", x.cut(13), StatementRules2.BAD);
        checks.same("read()", x.read(), 2);
        Checks.put(x, "log 1");
        checks.same("a read() with a fault", x.read(), -15);
        checks.same("empties the tape, too", x.cut(0), 0);
        Checks.put(x, "log 1;");
        checks.same("cut(0) of 6", x.cut(0), 6);
        checks.same("read() of nothing", x.read(), 0);
    }
}
