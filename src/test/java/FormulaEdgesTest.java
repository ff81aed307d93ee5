/** EXPR and COND at their edges: 32 bits, by 0, what comes first, what is left out, what waits meanwhile. */
public final class FormulaEdgesTest {
    private static final int[] VALUES = {Integer.MIN_VALUE, Integer.MIN_VALUE + 1, -65536, -7, -2, -1, 0, 1, 2, 7,
        46341, 65536, Integer.MAX_VALUE - 1, Integer.MAX_VALUE};

    public static void main(String[] args) {
        Checks checks = new Checks("formula edges");
        arithmetic(checks);
        divisions(checks);
        increase(checks);
        comparisons(checks);
        theLeftOneFirst(checks);
        precedence(checks);
        leftOut(checks);
        waiting(checks);
        waitingBehindThrown(checks);
        checks.end();
    }

    private static void arithmetic(Checks checks) {
        for (int a : VALUES) {
            StatementRules2 x = Checks.reading("log a+b;log a-b;log a*b;log -a;log - -a;log (a);");
            for (int b : VALUES) {
                if (x.run(a, b) != 0) {
                    checks.same("run(" + a + ", " + b + ")", -9, 0);
                }
                int[] due = {a + b, a - b, a * b, -a, a, a};
                for (int i = 0; i < due.length; i++) {
                    checks.same("row " + i + " of " + a + ", " + b, x.trace(i, 1), due[i]);
                }
            }
        }
    }

    private static void divisions(Checks checks) {
        for (int a : VALUES) {
            StatementRules2 x = Checks.reading("log a/b;log a%b;");
            for (int b : VALUES) {
                String due = b == 0 ? "| threw e2 0" : "log" + a / b + " log" + a % b + " | ended";
                checks.sameText("division of " + a + " by " + b, Checks.told(x, x.run(a, b)), due);
            }
        }
        checks.runs("log 1;log a%b;", 0, 0, "log1 | threw e2 0");
        checks.runs("log a/(b-b);", 5, 3, "| threw e2 0");
        checks.runs("log 0*(1/a);", 0, 0, "| threw e2 0");
    }

    private static void increase(Checks checks) {
        checks.runs("a++;a++;log a;", Integer.MAX_VALUE, 0, "log-2147483647 | ended");
        checks.runs("for(int i:a){i++;log i;}", Integer.MAX_VALUE, 0, "log-2147483648 | ended");
        checks.runs("for(;a>0;a++)log a;log a;", Integer.MAX_VALUE, 0, "log2147483647 log-2147483648 | ended");
        checks.runs("int x=-1;x++;log x;", 0, 0, "log0 | ended");
    }

    private static void comparisons(Checks checks) {
        String text = "if(a<b)log 1;if(a<=b)log 2;if(a>b)log 3;if(a>=b)log 4;if(a==b)log 5;if(a!=b)log 6;";
        for (int a : VALUES) {
            StatementRules2 x = Checks.reading(text);
            for (int b : VALUES) {
                String due = a < b ? "log1 log2 log6 | ended" : a > b ? "log3 log4 log6 | ended"
                    : "log2 log4 log5 | ended";
                checks.sameText("comparisons of " + a + ", " + b, Checks.told(x, x.run(a, b)), due);
            }
        }
    }

    /** A FACTOR that logs its number as it is worked out. */
    private static String loud(int number) {
        return "switch(0){default->{log " + number + ";yield " + number + ";}}";
    }

    private static void theLeftOneFirst(Checks checks) {
        checks.runs("log " + loud(9) + "-" + loud(4) + "-" + loud(3) + ";", 0, 0, "log9 log4 log3 log2 | ended");
        checks.runs("log " + loud(1) + "-" + loud(2) + "*" + loud(3) + ";", 0, 0, "log1 log2 log3 log-5 | ended");
        checks.runs("log (" + loud(1) + "-" + loud(2) + ")*" + loud(3) + ";", 0, 0, "log1 log2 log3 log-3 | ended");
        checks.runs("if(" + loud(1) + "<" + loud(2) + ")log 8;", 0, 0, "log1 log2 log8 | ended");
        checks.runs("for(int i:" + loud(1) + "," + loud(2) + ")log i;", 0, 0, "log1 log2 log1 log2 | ended");
        checks.runs("log a+switch(0){default->{a=100;yield 1;}}+a;", 5, 0, "log106 | ended");
        checks.runs("a=a+switch(0){default->{a=100;yield 1;}};log a;", 5, 0, "log6 | ended");
        checks.runs("log 1/a+" + loud(2) + ";", 0, 0, "| threw e2 0");
        checks.runs("log " + loud(2) + "+1/a;", 0, 0, "log2 | threw e2 0");
    }

    private static void precedence(Checks checks) {
        checks.runs("log 7-2+1;log 7+2-1;log 2*7/3;log 7/3*2;log 7%4*3;log 3*7%4;log 100/10%4;", 0, 0,
            "log6 log8 log4 log4 log9 log1 log2 | ended");
        checks.runs("log -7/2;log -(7/2);log -7%4;log 7- -2;log -2*-3-4;log - -(1);log 1-(2-3);", 0, 0,
            "log-3 log-3 log-3 log9 log2 log1 log2 | ended");
        checks.runs("log ((((1))))+2*(3+4);log -(-(-a));", 5, 0, "log15 log-5 | ended");
    }

    /** A ONE that logs its number as it is worked out. */
    private static String asking(int number, boolean answer) {
        return "switch(0){default->{log " + number + ";yield " + (answer ? 1 : 0) + ";}}==1";
    }

    private static void leftOut(Checks checks) {
        for (int bits = 0; bits < 8; bits++) {
            boolean p = (bits & 1) != 0;
            boolean q = (bits & 2) != 0;
            boolean r = (bits & 4) != 0;
            String a = asking(1, p);
            String b = asking(2, q);
            String c = asking(3, r);
            told(checks, a + "&&" + b + "||" + c, (p ? "log1 log2 " : "log1 ") + (p && q ? "" : "log3 "), p && q || r);
            told(checks, a + "||" + b + "&&" + c, "log1 " + (p ? "" : q ? "log2 log3 " : "log2 "), p || q && r);
            told(checks, a + "&&" + b + "&&" + c, "log1 " + (p ? q ? "log2 log3 " : "log2 " : ""), p && q && r);
            told(checks, a + "||" + b + "||" + c, "log1 " + (p ? "" : q ? "log2 " : "log2 log3 "), p || q || r);
            told(checks, "!" + a + "&&[" + b + "||" + c + "]", "log1 " + (p ? "" : q ? "log2 " : "log2 log3 "),
                !p && (q || r));
            told(checks, "![" + a + "||" + b + "]&&" + c, "log1 " + (p ? "" : q ? "log2 " : "log2 log3 "),
                !(p || q) && r);
        }
    }

    private static void told(Checks checks, String condition, String before, boolean due) {
        checks.runs("if(" + condition + ")return 1;return 0;", 0, 0, before + "| returned " + (due ? 1 : 0));
    }

    /** What is worked out on the left waits for a BLOCK of ARMS on the right, whatever stands in it. */
    private static void waiting(Checks checks) {
        String[] bodies = {"a++;", "a=1;", "int x=1;", "log 3;", ";", "{}", "if(a<1&&b<1);", "if(a<1||b<1);",
            "if(!a<1);",
            "if(a<1);else;", "while(a<1)a++;", "do a++;while(a<1);", "for(int i=0;i<2;i++);", "for(int i:1,2,3)break;",
            "for(int i:1,2,3)continue;", "x:break x;", "x:{lock(m0){break x;}}", "switch(a){case 0:;}",
            "switch(a){case 7:;}",
            "switch(a){default:break;}", "lock(m0){}", "try with r0{}", "try{}finally{}",
            "try{throw e0 1;}catch(e0 y){}",
            "while(true)try{break;}finally{}", "assert a<1:5;", "log switch(a){case 0->1;default->2;};",
            "try{lock(null){}}catch(e1 y){log y;}", "try{for(int i:null);}catch(e1 y){log y;}",
            "try{log 70+1/(a-a);}catch(e2 y){log y;}", "try{log 70+(80-(90-1%(a-a)));}catch(e2 y){log y;}"};
        for (String body : bodies) {
            StatementRules2 x = new StatementRules2();
            checks.same("read()", readOf(x, "return 100-(20-switch(0){default->{" + body + "yield 3;}});"), 0);
            checks.same("run of " + body, x.run(0, 0), 1);
            checks.same("what waits for " + body, x.ran(2), 83);
        }
    }

    private static int readOf(StatementRules2 x, String text) {
        Checks.put(x, text);
        x.read();
        return x.fault();
    }

    private static void waitingBehindThrown(Checks checks) {
        StatementRules2 x = new StatementRules2();
        x.asserts(true);
        checks.runs(x, "return 50-switch(0){default->{try{assert false;}catch(e3 y){yield y;}yield 1;}};", 0, 0,
            "| returned 50");
        checks.runs(x, "return 50-switch(0){default->{try{lock(null){}}catch(e1 y){yield y;}yield 1;}};", 0, 0,
            "| returned 50");
        checks.runs(x, "return 50-switch(0){default->{try{for(int i:null);}catch(e1 y){yield y;}yield 1;}};", 0, 0,
            "| returned 50");
        checks.runs(x, "return 50-switch(0){default->{try{log 7+1/a;}catch(e2 y){yield y+1;}yield 2;}};", 0, 0,
            "| returned 49");
        checks.runs(x, "return 50-switch(0){default->{try{log 7+1/a;}finally{yield 1;}}};", 0, 0, "| returned 49");
        checks.runs(x, "return 50-switch(0){default->{try{yield 6;}finally{log 7+a;}}};", 0, 0, "log7 | returned 44");
        checks.runs(x, "lock(m0){log 9-switch(0){default->{lock(m1){yield 1;}}};}", 0, 0,
            "take0 take1 drop1 log8 drop0 | ended");
        checks.runs(x, "lock(m0){log 9-switch(0){default->{try{yield 1;}finally{lock(m2){a=4;}}}}+a;}", 0, 0,
            "take0 take2 drop2 log12 drop0 | ended");
        checks.runs(x, "try{log 9-switch(0){default->{throw e0 4;}};}catch(e0 y){log y;}finally{log 1;}", 0, 0,
            "log4 log1 | ended");
    }
}
