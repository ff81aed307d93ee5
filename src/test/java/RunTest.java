/** Promise 10: how a run ends, and what it does on the way; what is thrown is in ThrowTest. */
public final class RunTest {
    public static void main(String[] args) {
        Checks checks = new Checks("run");
        outcomes(checks);
        formulas(checks);
        conditions(checks);
        loops(checks);
        labels(checks);
        switches(checks);
        arms(checks);
        places(checks);
        spent(checks);
        checks.end();
    }

    private static void outcomes(Checks checks) {
        StatementRules2 x = new StatementRules2();
        checks.same("no program", x.run(0, 0), StatementRules2.NO);
        Checks.put(x, "if(a<1)return b;if(a<2)throw e0 b;while(a>2);");
        x.read();
        checks.same("returned", x.run(0, 5), 1);
        checks.same("thrown", x.run(1, 5), 2);
        checks.same("ended", x.run(2, 5), 0);
        checks.same("spent", x.run(3, 5), 3);
        checks.same("returned again", x.run(0, -5), 1);
        checks.same("what", x.ran(2), -5);
    }

    private static void formulas(Checks checks) {
        value(checks, "1+2*3", 7);
        value(checks, "(1+2)*3", 9);
        value(checks, "10-4-3", 3);
        value(checks, "100/7/2", 7);
        value(checks, "100%7*3", 6);
        value(checks, "2*3%4", 2);
        value(checks, "-7/2", -3);
        value(checks, "-7%2", -1);
        value(checks, "7%-2", 1);
        value(checks, "7/-2", -3);
        value(checks, "- -5", 5);
        value(checks, "-2*-3", 6);
        value(checks, "1--1", 2);
        value(checks, "999999999*999999999", 999999999 * 999999999);
        value(checks, "-999999999-999999999-999999999", -999999999 - 999999999 - 999999999);
        checks.runs("log a/b;log a%b;log -a;log a-1;log a*b;", Integer.MIN_VALUE, -1,
            "log-2147483648 log0 log-2147483648 log2147483647 log-2147483648 | ended");
        checks.runs("a++;log a;", Integer.MAX_VALUE, 0, "log-2147483648 | ended");
        checks.runs("log 1;log a/b;log 2;", 1, 0, "log1 | threw e2 0");
        checks.runs("log a%b;", 1, 0, "| threw e2 0");
        checks.runs("a=b;b=a+1;log a;log b;", 1, 4, "log4 log5 | ended");
    }

    private static void value(Checks checks, String formula, int due) {
        checks.runs("return " + formula + ";", 0, 0, "| returned " + due);
    }

    private static void conditions(Checks checks) {
        int[][] pairs = {{1, 2}, {2, 2}, {2, 1}, {Integer.MIN_VALUE, Integer.MAX_VALUE}};
        for (int[] p : pairs) {
            told(checks, "a<b", p, p[0] < p[1]);
            told(checks, "a<=b", p, p[0] <= p[1]);
            told(checks, "a>b", p, p[0] > p[1]);
            told(checks, "a>=b", p, p[0] >= p[1]);
            told(checks, "a==b", p, p[0] == p[1]);
            told(checks, "a!=b", p, p[0] != p[1]);
            told(checks, "!a<b", p, !(p[0] < p[1]));
            told(checks, "!!a<b", p, p[0] < p[1]);
            told(checks, "a==1||a==2&&b==1", p, p[0] == 1 || p[0] == 2 && p[1] == 1);
            told(checks, "[a==1||a==2]&&b==1", p, (p[0] == 1 || p[0] == 2) && p[1] == 1);
            told(checks, "![a<b&&true]||false", p, !(p[0] < p[1]));
        }
        int[] zero = {0, 0};
        told(checks, "false&&1/a==1", zero, false);
        told(checks, "true||1/a==1", zero, true);
        told(checks, "a!=0&&1/a==1||b==0", zero, true);
        told(checks, "true||true&&1/a==1", zero, true);
        told(checks, "false&&1/a==1&&1/a==1||true", zero, true);
        checks.runs("if(true&&1/a==1);", 0, 0, "| threw e2 0");
        checks.runs("if(false||1/a==1);", 0, 0, "| threw e2 0");
    }

    private static void told(Checks checks, String condition, int[] p, boolean due) {
        checks.runs("if(" + condition + ")return 1;else return 0;", p[0], p[1], "| returned " + (due ? 1 : 0));
    }

    private static void loops(Checks checks) {
        checks.runs("while(a<3){log a;a++;}log 9;", 0, 0, "log0 log1 log2 log9 | ended");
        checks.runs("while(a<3)log 1;", 3, 0, "| ended");
        checks.runs("do{log a;a++;}while(a<3);", 5, 0, "log5 | ended");
        checks.runs("do{a++;if(a==2)continue;log a;}while(a<3);", 0, 0, "log1 log3 | ended");
        checks.runs("for(int i=0;i<4;i++){if(i==1)continue;if(i==3)break;log i;}", 0, 0, "log0 log2 | ended");
        checks.runs("for(a=5;a<7;a=a+1)log a;log a;", 0, 0, "log5 log6 log7 | ended");
        checks.runs("for(;;){a++;if(a>2)break;}log a;", 0, 0, "log3 | ended");
        checks.runs("for(int i:a,a+1,b){log i;a=50;}log a;", 1, 9, "log1 log2 log9 log50 | ended");
        checks.runs("for(int i:1,2,3){i=i+10;log i;if(i==12)break;}", 0, 0, "log11 log12 | ended");
        checks.runs("for(int i:1,1/a)log i;", 0, 0, "| threw e2 0");
        checks.runs("for(int i:1,2)for(int j:i,i*10)log j;", 0, 0, "log1 log10 log2 log20 | ended");
        checks.runs("for(int i:null)log i;", 0, 0, "| threw e1 0");
        checks.runs("while(true){while(true){break;}log 1;break;}", 0, 0, "log1 | ended");
    }

    private static void labels(Checks checks) {
        checks.runs("o:for(int i:1,2,3)for(int j:1,2){if(j==2)continue o;if(i==3)break o;log i*10+j;}log 9;", 0, 0,
            "log11 log21 log9 | ended");
        checks.runs("x:{log 1;if(a<1)break x;log 2;}log 3;", 0, 0, "log1 log3 | ended");
        checks.runs("x:{log 1;if(a<1)break x;log 2;}log 3;", 1, 0, "log1 log2 log3 | ended");
        checks.runs("x:y:while(a<3){a++;if(a==2)continue x;log a;}", 0, 0, "log1 log3 | ended");
        checks.runs("x:if(a<1){log 1;break x;}else log 2;log 3;", 0, 0, "log1 log3 | ended");
        checks.runs("x:switch(a){default:while(true)break x;}log 3;", 0, 0, "log3 | ended");
        checks.runs("x:for(int i=0;i<3;i++){do{continue x;}while(true);}log 1;", 0, 0, "log1 | ended");
    }

    private static void switches(Checks checks) {
        String text = "switch(a){case 1:log 1;case 2:log 2;break;default:log 9;case -3:log 3;}log 7;";
        checks.runs(text, 1, 0, "log1 log2 log7 | ended");
        checks.runs(text, 2, 0, "log2 log7 | ended");
        checks.runs(text, 5, 0, "log9 log3 log7 | ended");
        checks.runs(text, -3, 0, "log3 log7 | ended");
        checks.runs("switch(a){case 1:log 1;}log 7;", 2, 0, "log7 | ended");
        checks.runs("switch(1/a){case 1:log 1;}", 0, 0, "| threw e2 0");
        checks.runs("for(int i:1,2,3)switch(i){case 2:continue;default:log i;}", 0, 0, "log1 log3 | ended");
        checks.runs("switch(a){case 0:switch(b){case 0:break;default:log 1;}log 2;}", 0, 0, "log2 | ended");
        checks.runs("switch(a){case -999999999:log 1;}", -999999999, 0, "log1 | ended");
    }

    private static void arms(Checks checks) {
        String text = "log 1+switch(a){case 1,2->10;case -1->{log 4;yield 5;}default->a*2;}*2;";
        checks.runs(text, 1, 0, "log21 | ended");
        checks.runs(text, 2, 0, "log21 | ended");
        checks.runs(text, -1, 0, "log4 log11 | ended");
        checks.runs(text, 7, 0, "log29 | ended");
        checks.runs("return b+switch(a){default->{for(int i:1,2,3)if(i==2)yield i;yield 9;}};", 0, 100,
            "| returned 102");
        checks.runs("return b+switch(a){default->{lock(m1){yield 3;}}};", 0, 100, "take1 drop1 | returned 103");
        checks.runs("return b+switch(a){default->{try{yield 3;}finally{log 1;}}};", 0, 100, "log1 | returned 103");
        checks.runs("return b+switch(a){default->{try{yield 3;}finally{yield 4;}}};", 0, 100, "| returned 104");
        checks.runs("try{log 1+switch(a){default->{throw e0 6;}};}catch(e0 x){return x;}", 0, 0, "| returned 6");
        checks.runs("return b*switch(a){default->{try{throw e0 6;}catch(e0 x){yield x;}}};", 0, 7, "| returned 42");
        checks.runs("return switch(switch(a){case 0->1;default->2;}){case 1->11;default->22;};", 0, 0,
            "| returned 11");
        checks.runs("for(int i:1,switch(a){default->{log 5;yield 2;}})log i;", 0, 0, "log5 log1 log2 | ended");
        checks.runs("while(switch(a){default->{a++;yield a;}}<3)log a;", 0, 0, "log1 log2 | ended");
        checks.runs("return switch(a){default->{switch(b){case 1:yield 1;default:yield 2;}}};", 0, 1, "| returned 1");
        checks.runs("return switch(1/a){default->1;};", 0, 1, "| threw e2 0");
    }

    /** Each NAME has one place, 0 as the run begins. */
    private static void places(Checks checks) {
        checks.runs("switch(a){case 1:int z=5;case 2:log z;z++;log z;}", 2, 0, "log0 log1 | ended");
        checks.runs("for(int i:1,2,3)switch(i){case 1:int z=5;default:log z;z++;}", 2, 0, "log5 log6 log7 | ended");
        checks.runs("{int x=1;log x;}{int x=2;log x;}", 0, 0, "log1 log2 | ended");
        StatementRules2 x = Checks.reading("switch(a){case 1:int z=5;default:log z;}");
        checks.sameText("the first run", Checks.told(x, x.run(1, 0)), "log5 | ended");
        checks.sameText("the second run", Checks.told(x, x.run(2, 0)), "log0 | ended");
    }

    private static void spent(Checks checks) {
        checks.runs("while(true);", 0, 0, "| spent");
        checks.runs("while(true){}", 0, 0, "| spent");
        checks.runs("for(;;){}", 0, 0, "| spent");
        checks.runs("do{}while(true);", 0, 0, "| spent");
        checks.runs("for(int i=0;i<999;i++){}", 0, 0, "| ended");
        checks.runs("for(int i=0;i<1000;i++){}", 0, 0, "| spent");
        checks.runs("for(int i=0;i<998;i++){}log 1;", 0, 0, "log1 | ended");
        checks.runs("for(int i=0;i<999;i++){}log 1;", 0, 0, "| spent");
        checks.runs("try with r0{lock(m1){while(true);}}catch(e0 x){log 1;}finally{log 2;}", 0, 0,
            "open0 take1 | spent");
        StatementRules2 x = Checks.reading("lock(m0){lock(m1){while(true);}}");
        checks.same("spent", x.run(0, 0), 3);
        checks.same("takings that were not let go", x.ran(6), 2);
        checks.same("again", x.run(0, 0), 3);
        checks.same("takings of that run", x.ran(6), 2);
    }
}
