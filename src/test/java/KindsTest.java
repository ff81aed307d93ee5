/** Promises 4 and 14. */
public final class KindsTest {
    public static void main(String[] args) {
        Checks checks = new Checks("kinds");
        StatementRules2 x = new StatementRules2();
        checks.same("kind(-1)", x.kind(-1), StatementRules2.BAD);
        checks.same("kind(4) of 4", x.kind(4), StatementRules2.BAD);
        checks.same("kind(0)", x.kind(0), 4);
        checks.same("kind(4)", x.kind(4), 5);
        checks.same("kind(5)", x.kind(5), 6);
        checks.same("kind(1)", x.kind(1), 7);
        checks.same("kind(8) of 8", x.kind(8), StatementRules2.BAD);
        under(checks, x);
        for (int n = 8; n < 12; n++) {
            checks.same("the kind " + n, x.kind(n - 1), n);
        }
        checks.same("the 13th kind", x.kind(0), StatementRules2.FULL);
        checks.same("the 13th kind, under 11", x.kind(11), StatementRules2.FULL);
        checks.same("kind(12), full", x.kind(12), StatementRules2.BAD);
        checks.same("kind(-1), full", x.kind(-1), StatementRules2.BAD);
        checks.same("under(11, 7)", x.under(11, 7), 1);
        checks.same("under(11, 1)", x.under(11, 1), 1);
        checks.same("under(11, 4)", x.under(11, 4), 0);
        checks.same("under(12, 0)", x.under(12, 0), StatementRules2.BAD);
        checks.end();
    }

    private static void under(Checks checks, StatementRules2 x) {
        int[] above = {-1, 0, 0, 0, 0, 4, 5, 1};
        for (int a = 0; a < 8; a++) {
            for (int b = 0; b < 8; b++) {
                int due = 0;
                for (int up = a; up >= 0; up = above[up]) {
                    due = up == b ? 1 : due;
                }
                checks.same("under(" + a + ", " + b + ")", x.under(a, b), due);
            }
        }
        checks.same("under(8, 0)", x.under(8, 0), StatementRules2.BAD);
        checks.same("under(0, 8)", x.under(0, 8), StatementRules2.BAD);
        checks.same("under(-1, 0)", x.under(-1, 0), StatementRules2.BAD);
        checks.same("under(0, -1)", x.under(0, -1), StatementRules2.BAD);
        checks.same("under(most, most)", x.under(Integer.MAX_VALUE, Integer.MAX_VALUE), StatementRules2.BAD);
    }
}
