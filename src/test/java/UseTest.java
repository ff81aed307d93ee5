/** The calls of README.md, with the answers that it tells. */
public final class UseTest {
    public static void main(String[] args) {
        Checks checks = new Checks("use");
        StatementRules2 x = new StatementRules2();
        first(checks, x);
        longer(checks, x);
        checks.end();
    }

    private static void first(Checks checks, StatementRules2 x) {
        checks.same("feed", x.feed(0x6c6f6720, 0x613b2020, 0x20202020, 0x20202020, 0x20202020), 20);
        checks.same("cut(6)", x.cut(6), 14);
        checks.same("read()", x.read(), 1);
        checks.same("run(3, 4)", x.run(3, 4), 0);
        checks.same("trace(0, 1)", x.trace(0, 1), 3);
    }

    private static void longer(Checks checks, StatementRules2 x) {
        int mine = x.kind(0);
        checks.same("kind(0)", mine, 4);
        checks.same("resource(1, 0, -1, 4)", x.resource(1, 0, -1, mine), 1);
        put(x, "try with r1 { log a; throw e2 b; }");
        checks.same("read() of the try", x.read(), 3);
        checks.same("run(3, 4) of the try", x.run(3, 4), 2);
        checks.same("ran(3)", x.ran(3), 2);
        checks.same("ran(4)", x.ran(4), 4);
        checks.same("ran(1)", x.ran(1), 3);
        checks.same("trace(2, 0)", x.trace(2, 0), 2);
        checks.same("ran(5)", x.ran(5), 1);
        checks.same("suppressed(0, 0)", x.suppressed(0, 0), 4);
        put(x, "while (true) ; log a;");
        checks.same("read() of what cannot be reached", x.read(), -25);
        checks.same("fault()", x.fault(), 7);
        checks.same("run(3, 4) of no program", x.run(3, 4), StatementRules2.NO);
    }

    private static void put(StatementRules2 x, String text) {
        for (int i = 0; i < text.length(); i += 20) {
            int[] five = new int[5];
            for (int j = 0; j < 20; j++) {
                five[j / 4] = five[j / 4] << 8 | (i + j < text.length() ? text.charAt(i + j) : ' ');
            }
            x.feed(five[0], five[1], five[2], five[3], five[4]);
        }
        x.cut(text.length());
    }
}
