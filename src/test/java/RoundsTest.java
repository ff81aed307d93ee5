/** Promise 15. */
public final class RoundsTest {
    public static void main(String[] args) {
        Checks checks = new Checks("rounds");
        StatementRules2 x = new StatementRules2();
        checks.same("7 of 2", x.rounds(7, 2), 4);
        checks.same("6 of 3", x.rounds(6, 3), 2);
        checks.same("0 of 5", x.rounds(0, 5), 0);
        checks.same("1 of 5", x.rounds(1, 5), 1);
        checks.same("the most of 1", x.rounds(Integer.MAX_VALUE, 1), Integer.MAX_VALUE);
        checks.same("the most of 2", x.rounds(Integer.MAX_VALUE, 2), 1073741824);
        checks.same("the most of the most", x.rounds(Integer.MAX_VALUE, Integer.MAX_VALUE), 1);
        checks.same("1 of the most", x.rounds(1, Integer.MAX_VALUE), 1);
        checks.same("n below 0", x.rounds(-1, 3), StatementRules2.BAD);
        checks.same("size below 0", x.rounds(3, -1), StatementRules2.BAD);
        checks.same("both below 0", x.rounds(Integer.MIN_VALUE, Integer.MIN_VALUE), StatementRules2.BAD);
        checks.same("n below 0, size 0", x.rounds(-1, 0), StatementRules2.BAD);
        checks.same("throws on 7 of 0", throwsOn(x, 7), 1);
        checks.same("throws on 0 of 0", throwsOn(x, 0), 1);
        checks.end();
    }

    private static int throwsOn(StatementRules2 x, int n) {
        try {
            x.rounds(n, 0);
        } catch (ArithmeticException e) {
            return 1;
        }
        return 0;
    }
}
