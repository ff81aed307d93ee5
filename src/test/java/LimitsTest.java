/** Texts as long as the tape: the reader and the machine have room for them. */
public final class LimitsTest {
    public static void main(String[] args) {
        Checks checks = new Checks("limits");
        checks.sound(Checks.repeat(";", 900), 900);
        checks.faulty(Checks.repeat("do ", 300), 2, 900);
        longChains(checks);
        longRows(checks);
        manyResources(checks);
        manyCases(checks);
        manyCalls(checks);
        checks.end();
    }

    private static void longChains(Checks checks) {
        StringBuilder labels = new StringBuilder();
        int count = 0;
        for (char c = 'a'; c <= 'z' && labels.length() < 870; c++) {
            for (char d = 'a'; d <= 'z' && labels.length() < 870; d++) {
                if (c != 'd' || d != 'o') {
                    String name = "" + c + d;
                    if (!name.equals("if")) {
                        labels.append(name).append(':');
                        count++;
                    }
                }
            }
        }
        String text = labels + "for(;a<3;){a++;continue aa;}";
        StatementRules2 x = new StatementRules2();
        checks.sound(x, text, count + 4);
        checks.same("run of a long chain", x.run(0, 0), 0);
        checks.same("its steps", x.ran(0), 10);
        checks.sound(Checks.repeat("if(a<1)", 128) + ";", 129);
        checks.sound(Checks.repeat("if(a<1);else ", 69) + ";", 139);
        checks.sound(Checks.repeat("for(;;)", 128) + ";", 129);
        checks.sound(Checks.repeat("do ", 60) + ";" + Checks.repeat("while(a<1);", 60), 61);
    }

    private static void longRows(Checks checks) {
        StatementRules2 x = Checks.reading("for(int i:" + Checks.repeat("b,", 440) + "a)b=i;");
        checks.same("a row of 441", x.run(7, 1), 0);
        checks.same("its steps", x.ran(0), 883);
        x = Checks.reading("return " + Checks.repeat("1+", 445) + "a;");
        x.run(7, 1);
        checks.same("a sum of 446", x.ran(2), 452);
    }

    private static void manyResources(Checks checks) {
        StatementRules2 x = new StatementRules2();
        x.resource(0, 0, -1, 2);
        Checks.put(x, "try with " + Checks.repeat("r0,", 290) + "r1{throw e1 3;}");
        x.read();
        checks.same("291 resources", x.run(0, 0), 2);
        checks.same("rows kept", x.ran(1), 200);
        checks.same("suppressed", x.ran(5), 8);
    }

    private static void manyCases(Checks checks) {
        StringBuilder text = new StringBuilder("return switch(a){case 0");
        for (int i = 1; text.length() < 870; i++) {
            text.append(',').append(i);
        }
        text.append("->1;default->2;};");
        StatementRules2 x = Checks.reading(text.toString());
        x.run(100, 0);
        checks.same("one of many cases", x.ran(2), 1);
        x.run(1000, 0);
        checks.same("none of many cases", x.ran(2), 2);
    }

    private static void manyCalls(Checks checks) {
        StatementRules2 x = Checks.reading("try{throw e1 a;}catch(e1 x){log x;}");
        for (int i = 0; i < 400; i++) {
            x.run(i, 0);
            checks.same("run " + i, x.trace(0, 1), i);
        }
    }
}
