/** Promise 9. */
public final class ProgramTest {
    public static void main(String[] args) {
        Checks checks = new Checks("program");
        counts(checks, "", 0, 1, 0, 0);
        counts(checks, "int x=1;var y=2;{int z=3;}for(int i=0;i<1;i++);for(int j:1);", 8, 1, 5, 0);
        counts(checks, "try{}catch(e0 x){}lock(m0){}", 2, 1, 0, 0);
        counts(checks, "return 1;", 1, 0, 0, 0);
        counts(checks, "while(true){if(a<1)break;continue;}", 5, 1, 0, 2);
        counts(checks, "o:for(;;){for(;;){continue o;}}", 6, 0, 0, 1);
        counts(checks, "switch(a){case 1:break;default:throw e0 1;}", 3, 1, 0, 1);
        counts(checks, "log switch(a){case 1->{int q=1;while(true)break;yield q;}default->2;};", 5, 1, 1, 1);
        StatementRules2 x = Checks.reading("log 1;");
        checks.same("what 4", x.program(4), StatementRules2.BAD);
        checks.same("what -1", x.program(-1), StatementRules2.BAD);
        Checks.put(x, "log");
        x.read();
        checks.same("behind a fault", x.program(0), StatementRules2.NO);
        checks.same("what 4 behind a fault", x.program(4), StatementRules2.BAD);
        Checks.put(x, "log 1;;");
        checks.same("what is on the tape is no program", x.program(0), StatementRules2.NO);
        x.read();
        checks.same("behind another read()", x.program(0), 2);
        Checks.put(x, "not read");
        checks.same("what is on the tape does not count", x.program(0), 2);
        edges(checks);
        again(checks);
        checks.end();
    }

    /** Which NAMES are told by int, var, and which jumps are breaks, continues. */
    private static void edges(Checks checks) {
        counts(checks, "for(int i=0;i<1;i++)for(int j:1)for(a=0;a<1;a++);", 4, 1, 2, 0);
        counts(checks, "try{}catch(e1 x){}catch(e2 y){int z=1;}x:y:;", 5, 1, 1, 0);
        counts(checks, "{int x=1;}{int x=1;}{var x=1;}", 6, 1, 3, 0);
        counts(checks, "while(true){int x=1;x:while(true){break x;}}", 7, 0, 1, 1);
        counts(checks, "log switch(a){default->{while(true){yield 1;}}};", 4, 1, 0, 0);
        counts(checks, "x:break x;y:{break y;}", 5, 1, 0, 2);
        counts(checks, ";".repeat(900), 900, 1, 0, 0);
        counts(checks, "x:{" + "if(a<1)break x;".repeat(59) + "}", 120, 1, 0, 59);
        counts(checks, "int i=1;" + "{int j=1;}".repeat(80), 161, 1, 81, 0);
    }

    /** The counts are those of the latest text alone, behind one that had a fault, too. */
    private static void again(Checks checks) {
        StatementRules2 x = new StatementRules2();
        String[] before = {"int x=1;while(true){int y=2;if(a<1)break;}", "while(true){int x=1;break;",
            "return 1;", "return 1;;"};
        for (String text : before) {
            Checks.put(x, text);
            x.read();
            counts(checks, x, "var z=1;while(z<2){z++;continue;}", 5, 1, 1, 1);
            Checks.put(x, text);
            x.read();
            counts(checks, x, "", 0, 1, 0, 0);
            counts(checks, x, "for(;;);", 2, 0, 0, 0);
        }
    }

    private static void counts(Checks checks, String text, int statements, int ends, int names, int jumps) {
        counts(checks, new StatementRules2(), text, statements, ends, names, jumps);
    }

    private static void counts(Checks checks, StatementRules2 x, String text, int statements, int ends, int names,
        int jumps) {
        checks.sound(x, text, statements);
        checks.same("program(0) of " + text, x.program(0), statements);
        checks.same("program(1) of " + text, x.program(1), ends);
        checks.same("program(2) of " + text, x.program(2), names);
        checks.same("program(3) of " + text, x.program(3), jumps);
    }
}
