import java.util.ArrayList;
import java.util.List;

/** REFUSALS: every call with numbers that are too small and too large, in every state; and that nothing changes. */
public final class RefusalsTest {
    private static final int LOWEST = Integer.MIN_VALUE;
    private static final int MOST = Integer.MAX_VALUE;
    private static final int BAD = StatementRules2.BAD;
    private static final int FULL = StatementRules2.FULL;
    private static final int NO = StatementRules2.NO;

    public static void main(String[] args) {
        Checks checks = new Checks("refusals");
        refused(checks, "new", new StatementRules2(), 0, 4);
        refused(checks, "behind a run", behindRun(), 7, 6);
        refused(checks, "behind a run that threw", behindThrow(), 5, 12);
        refused(checks, "behind a run that was spent", behindSpent(), 0, 4);
        refused(checks, "read", behindRead(), 3, 4);
        refused(checks, "behind a fault", behindFault(), 12, 5);
        full(checks);
        withoutProgram(checks);
        behindReads(checks);
        argumentsAtTheirEdges(checks);
        nothingIsWrong(checks);
        checks.end();
    }

    private static StatementRules2 behindRun() {
        StatementRules2 x = new StatementRules2();
        x.kind(1);
        x.kind(4);
        x.resource(3, 0, -1, 5);
        x.asserts(true);
        Checks.put(x, "lock(m1){try with r3{log a;}catch(e5 x){log x+10;}}return b;");
        x.read();
        x.run(8, 9);
        Checks.put(x, "log 12;");
        return x;
    }

    private static StatementRules2 behindThrow() {
        StatementRules2 x = new StatementRules2();
        for (int n = 4; n < 12; n++) {
            x.kind(n - 1);
        }
        x.resource(0, 0, -1, 11);
        x.resource(1, 0, -1, 7);
        Checks.put(x, "try with r0,r1{throw e6 -5;}");
        x.read();
        x.run(0, 0);
        Checks.put(x, "log a");
        return x;
    }

    private static StatementRules2 behindSpent() {
        StatementRules2 x = Checks.reading("lock(m0){log 1;while(true);}");
        x.run(0, 0);
        return x;
    }

    private static StatementRules2 behindRead() {
        StatementRules2 x = Checks.reading("int x=1;while(x<3){x++;if(x==2)break;}");
        Checks.put(x, "a=1");
        return x;
    }

    private static StatementRules2 behindFault() {
        StatementRules2 x = new StatementRules2();
        x.kind(0);
        Checks.put(x, "log 1;");
        x.read();
        x.run(0, 0);
        Checks.put(x, "log");
        x.read();
        Checks.put(x, "log 1;log 2;");
        return x;
    }

    /** All that can be asked without a change, in one text. */
    private static String state(StatementRules2 x, int bytes) {
        StringBuilder text = new StringBuilder();
        text.append(x.fault()).append(';').append(x.cut(bytes)).append(x.cut(bytes + 1)).append(';');
        for (int what = 0; what < 4; what++) {
            text.append(x.program(what)).append(',');
        }
        for (int what = 0; what < 7; what++) {
            text.append(x.ran(what)).append(',');
        }
        for (int i = 0; i < 6; i++) {
            text.append(x.trace(i, 0)).append(':').append(x.trace(i, 1)).append(',');
            text.append(x.suppressed(i, 0)).append(':').append(x.suppressed(i, 1)).append(',');
        }
        for (int a = 0; a < 13; a++) {
            text.append(x.under(a, 0)).append(x.under(a, 1)).append(x.under(a, 4)).append(x.under(a, 9));
        }
        return text.toString();
    }

    private static void refused(Checks checks, String name, StatementRules2 x, int bytes, int kinds) {
        String before = state(x, bytes);
        List<Integer> answers = new ArrayList<>();
        for (int n : new int[] {LOWEST, -1, bytes + 1, 900 + bytes, MOST}) {
            answers.add(x.cut(n));
        }
        for (int above : new int[] {LOWEST, -1, kinds, kinds + 1, MOST}) {
            answers.add(x.kind(above));
        }
        resources(answers, x, kinds);
        for (int what : new int[] {LOWEST, -1, 4, MOST}) {
            answers.add(x.program(what));
        }
        for (int what : new int[] {LOWEST, -1, 7, MOST}) {
            answers.add(x.ran(what));
        }
        rows(answers, x);
        for (int kind : new int[] {LOWEST, -1, kinds, MOST}) {
            answers.add(x.under(kind, 0));
            answers.add(x.under(0, kind));
            answers.add(x.under(kind, kind));
        }
        answers.add(x.rounds(-1, 1));
        answers.add(x.rounds(LOWEST, 0));
        answers.add(x.rounds(0, -1));
        answers.add(x.rounds(MOST, LOWEST));
        for (int i = 0; i < answers.size(); i++) {
            checks.same("refusal " + i + ", " + name, answers.get(i), BAD);
        }
        checks.sameText("the state, " + name, state(x, bytes), before);
    }

    private static void resources(List<Integer> answers, StatementRules2 x, int kinds) {
        for (int n : new int[] {LOWEST, -1, 8, MOST}) {
            answers.add(x.resource(n, 0, -1, -1));
        }
        for (int n : new int[] {LOWEST, -1, 2, MOST}) {
            answers.add(x.resource(0, n, -1, -1));
        }
        for (int n : new int[] {LOWEST, -2, kinds, MOST}) {
            answers.add(x.resource(0, 0, n, -1));
            answers.add(x.resource(0, 0, -1, n));
            answers.add(x.resource(0, 1, n, n));
        }
    }

    private static void rows(List<Integer> answers, StatementRules2 x) {
        for (int n : new int[] {LOWEST, -1, 200, 201, MOST, 1 << 30, 1 << 31}) {
            answers.add(x.trace(n, 0));
            answers.add(x.trace(n, 1));
            answers.add(x.suppressed(n, 0));
            answers.add(x.suppressed(n, 1));
        }
        for (int n : new int[] {LOWEST, -1, 2, MOST}) {
            answers.add(x.trace(0, n));
            answers.add(x.suppressed(0, n));
        }
        answers.add(x.suppressed(8, 0));
    }

    /** FULL changes nothing, of THE TAPE and of KINDS. */
    private static void full(Checks checks) {
        StatementRules2 x = new StatementRules2();
        for (int i = 0; i < 45; i++) {
            x.feed(0x3b3b3b3b, 0x3b3b3b3b, 0x3b3b3b3b, 0x3b3b3b3b, 0x3b3b3b3b);
        }
        for (int i = 0; i < 3; i++) {
            checks.same("feed() above 900", x.feed(-1, -1, -1, -1, -1), FULL);
        }
        checks.same("nothing went", x.cut(900), 0);
        checks.same("cut() above 900", x.cut(901), BAD);
        checks.same("read() of 900 bytes", x.read(), 900);
        for (int bytes = 881; bytes <= 899; bytes++) {
            StatementRules2 y = new StatementRules2();
            Checks.put(y, ";".repeat(bytes));
            checks.same("feed() behind " + bytes, y.feed(-1, -1, -1, -1, -1), FULL);
            checks.same("read() of " + bytes, y.read(), bytes);
        }
        Checks.put(x, ";".repeat(880));
        checks.same("feed() behind 880", x.feed(0x3b3b3b3b, 0x3b3b3b3b, 0x3b3b3b3b, 0x3b3b3b3b, 0x3b3b3b3b), 900);
        checks.same("read() of 880 and 20", x.read(), 900);
        for (int n = 4; n < 12; n++) {
            checks.same("kind " + n, x.kind(n - 1), n);
        }
        for (int above = 0; above < 12; above++) {
            checks.same("kind(" + above + ") above 12", x.kind(above), FULL);
        }
        checks.same("there is no KIND 12", x.under(12, 0), BAD);
        checks.same("KIND 11 is as it was", x.under(11, 4) * 10 + x.under(11, 2), 10);
        checks.marked(x, "throw @e12 1;", 3);
        checks.sound(x, "throw e11 1;", 1);
    }

    private static void withoutProgram(Checks checks) {
        StatementRules2[] all = {new StatementRules2(), behindFault()};
        for (StatementRules2 x : all) {
            for (int what = 0; what < 4; what++) {
                checks.same("program(" + what + ")", x.program(what), NO);
            }
            for (int i = 0; i < 3; i++) {
                checks.same("run()", x.run(LOWEST, MOST), NO);
            }
            for (int what = 0; what < 7; what++) {
                checks.same("ran(" + what + ")", x.ran(what), NO);
            }
            checks.same("trace(0, 0)", x.trace(0, 0), BAD);
            checks.same("suppressed(0, 0)", x.suppressed(0, 0), BAD);
        }
    }

    /** Behind a read(), with a fault or without one, no run was. KINDS, RESOURCES and assert stay as they are. */
    private static void behindReads(Checks checks) {
        String[] texts = {"try with r0{}", "assert false;", "log", "#", "", "return 1;;", "throw e4 1;"};
        for (String text : texts) {
            StatementRules2 x = behindThrow();
            x.asserts(true);
            x.cut(0);
            Checks.put(x, text);
            int answer = x.read();
            checks.same("THE TAPE behind '" + text + "'", x.cut(0), 0);
            checks.same("THE TAPE is empty behind '" + text + "'", x.cut(1), BAD);
            for (int what = 0; what < 7; what++) {
                checks.same("ran(" + what + ") behind '" + text + "'", x.ran(what), NO);
            }
            checks.same("trace() behind '" + text + "'", x.trace(0, 0), BAD);
            checks.same("suppressed() behind '" + text + "'", x.suppressed(0, 0), BAD);
            checks.same("program(0) behind '" + text + "'", x.program(0), answer < 0 ? NO : answer);
            checks.same("assert behind '" + text + "'", x.asserts(true), 1);
            checks.same("KINDS behind '" + text + "'", x.under(11, 3) + x.under(11, 2) * 10, 1);
            checks.runs(x, "try with r0,r1{throw e6 -5;}", 0, 0,
                "open0 open1 close1 close0 | threw e6 -5 [e7 1] [e11 0]");
        }
    }

    /** The last numbers that are not refused. */
    private static void argumentsAtTheirEdges(Checks checks) {
        StatementRules2 x = behindThrow();
        checks.same("cut() of all that is there", x.cut(5), 0);
        checks.same("cut() of one", x.cut(4), 1);
        checks.same("cut() of the rest", x.cut(0), 4);
        checks.same("cut() of nothing", x.cut(0), 0);
        checks.same("resource 0", x.resource(0, 0, -1, -1), 1);
        checks.same("resource 7", x.resource(7, 1, 11, 11), 1);
        checks.same("KIND 0 of a resource", x.resource(7, 0, 0, 0), 1);
        checks.same("program(0)", x.program(0), 2);
        checks.same("program(3)", x.program(3), 0);
        checks.same("ran(0)", x.ran(0), 2);
        checks.same("ran(6)", x.ran(6), 0);
        checks.same("trace(0, 0)", x.trace(0, 0), 1);
        checks.same("trace(3, 1)", x.trace(3, 1), 0);
        checks.same("trace(4, 1)", x.trace(4, 1), BAD);
        checks.same("suppressed(1, 1)", x.suppressed(1, 1), 0);
        checks.same("suppressed(2, 1)", x.suppressed(2, 1), BAD);
        checks.same("under(11, 11)", x.under(11, 11), 1);
        checks.same("under(0, 11)", x.under(0, 11), 0);
        checks.same("under(11, 0)", x.under(11, 0), 1);
        checks.same("rounds(0, 1)", x.rounds(0, 1), 0);
        checks.same("rounds(most, most)", x.rounds(MOST, MOST), 1);
        checks.same("rounds(most, most - 1)", x.rounds(MOST, MOST - 1), 2);
        checks.same("rounds(most - 1, most)", x.rounds(MOST - 1, MOST), 1);
    }

    /** A refused resource() leaves what that RESOURCE was told, and rounds() that throws leaves all. */
    private static void nothingIsWrong(Checks checks) {
        StatementRules2 x = behindRun();
        x.resource(3, 1, 9, -1);
        x.resource(3, 2, -1, -1);
        x.resource(3, 0, -1, -2);
        String before = state(x, 7);
        int thrown = 0;
        for (int n : new int[] {0, 1, MOST}) {
            try {
                x.rounds(n, 0);
            } catch (ArithmeticException e) {
                thrown++;
            }
        }
        checks.same("rounds() of 0 each throws", thrown, 3);
        checks.sameText("the state behind it", state(x, 7), before);
        checks.sameText("the run again", Checks.told(x, x.run(8, 9)),
            "take1 open3 log8 close3 log13 drop1 | returned 9");
        checks.same("what was on THE TAPE", x.read(), 1);
        x.run(0, 0);
        checks.same("and what it logs", x.trace(0, 1), 12);
    }
}
