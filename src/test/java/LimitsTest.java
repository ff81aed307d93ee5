/** Texts as long as the tape: the reader and the machine have room for them. */
public final class LimitsTest {
    public static void main(String[] args) {
        Checks checks = new Checks("limits");
        checks.sound(Checks.repeat(";", 900), 900);
        checks.faulty(Checks.repeat("do ", 300), 2, 900);
        longChains(checks);
        longRows(checks);
        manyResources(checks);
        manyCases(checks);
        manyCalls(checks);
        manyReads(checks);
        manySpentRuns(checks);
        checks.end();
    }

    private static void longChains(Checks checks) {
        StringBuilder labels = new StringBuilder();
        int count = 0;
        for (char c = 'a'; c <= 'z' && labels.length() < 870; c++) {
            for (char d = 'a'; d <= 'z' && labels.length() < 870; d++) {
                if (c != 'd' || d != 'o') {
                    String name = "" + c + d;
                    if (!name.equals("if")) {
                        labels.append(name).append(':');
                        count++;
                    }
                }
            }
        }
        String text = labels + "for(;a<3;){a++;continue aa;}";
        StatementRules2 x = new StatementRules2();
        checks.sound(x, text, count + 4);
        checks.same("run of a long chain", x.run(0, 0), 0);
        checks.same("its steps", x.ran(0), 10);
        checks.sound(Checks.repeat("if(a<1)", 128) + ";", 129);
        checks.sound(Checks.repeat("if(a<1);else ", 69) + ";", 139);
        checks.sound(Checks.repeat("for(;;)", 128) + ";", 129);
        checks.sound(Checks.repeat("do ", 60) + ";" + Checks.repeat("while(a<1);", 60), 61);
    }

    private static void longRows(Checks checks) {
        StatementRules2 x = Checks.reading("for(int i:" + Checks.repeat("b,", 440) + "a)b=i;");
        checks.same("a row of 441", x.run(7, 1), 0);
        checks.same("its steps", x.ran(0), 883);
        x = Checks.reading("return " + Checks.repeat("1+", 445) + "a;");
        x.run(7, 1);
        checks.same("a sum of 446", x.ran(2), 452);
    }

    private static void manyResources(Checks checks) {
        StatementRules2 x = new StatementRules2();
        x.resource(0, 0, -1, 2);
        Checks.put(x, "try with " + Checks.repeat("r0,", 290) + "r1{throw e1 3;}");
        x.read();
        checks.same("291 resources", x.run(0, 0), 2);
        checks.same("rows kept", x.ran(1), 200);
        checks.same("suppressed", x.ran(5), 8);
    }

    private static void manyCases(Checks checks) {
        StringBuilder text = new StringBuilder("return switch(a){case 0");
        for (int i = 1; text.length() < 870; i++) {
            text.append(',').append(i);
        }
        text.append("->1;default->2;};");
        StatementRules2 x = Checks.reading(text.toString());
        x.run(100, 0);
        checks.same("one of many cases", x.ran(2), 1);
        x.run(1000, 0);
        checks.same("none of many cases", x.ran(2), 2);
    }

    private static void manyCalls(Checks checks) {
        StatementRules2 x = Checks.reading("try{throw e1 a;}catch(e1 x){log x;}");
        for (int i = 0; i < 200; i++) {
            x.run(i, 0);
            checks.same("run " + i, x.trace(0, 1), i);
        }
    }

    /** Nothing of an earlier text, sound or not, takes room from a later one. */
    private static void manyReads(Checks checks) {
        StatementRules2 x = new StatementRules2();
        for (int i = 0; i < 4; i++) {
            checks.sound(x, "for(;;)".repeat(120) + ";", 121);
        }
        checks.runs(x, "for(int i=0;i<2;i++)log i;", 0, 0, "log0 log1 | ended");
        x = new StatementRules2();
        String open = "switch(b){" + cases();
        for (int i = 0; i < 5; i++) {
            checks.faulty(x, open + "log z;", 3, open.length() + 4);
        }
        checks.runs(x, open + "log 1;}", 0, 20, "log1 | ended");
        x = new StatementRules2();
        for (int i = 0; i < 5; i++) {
            checks.sound(x, "x:{" + "if(a<1)break x;".repeat(50) + "}", 102);
        }
        checks.runs(x, "while(true){if(a<1)break;}log 1;", 0, 0, "log1 | ended");
    }

    private static String cases() {
        StringBuilder text = new StringBuilder();
        for (int i = 0; text.length() < 800; i++) {
            text.append("case ").append(i).append(':');
        }
        return text.toString();
    }

    /** Nothing of a run that was SPENT takes room from the next one. */
    private static void manySpentRuns(Checks checks) {
        String many = "r0,".repeat(60);
        String text = "log 1-(2-(3-(4-(5-switch(0){default->{try with " + many + "r1{while(a<1);}yield 6;}}))));";
        StatementRules2 x = Checks.reading(text);
        for (int i = 0; i < 200; i++) {
            checks.same("spent", x.run(0, 0), 3);
        }
        checks.same("the run behind them", x.run(1, 0), 0);
        checks.same("its rows", x.ran(1), 123);
        checks.same("opened first", x.trace(0, 0) * 10 + x.trace(0, 1), 10);
        checks.same("opened last", x.trace(60, 0) * 10 + x.trace(60, 1), 11);
        checks.same("closed first", x.trace(61, 0) * 10 + x.trace(61, 1), 21);
        checks.same("closed last", x.trace(121, 0) * 10 + x.trace(121, 1), 20);
        checks.same("what was logged", x.trace(122, 1), 1 - (2 - (3 - (4 - (5 - 6)))));
    }
}
