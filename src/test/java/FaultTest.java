/** Promise 8: the FAULTS 1 to 6, and their places; those of 7 are in ReachTest. */
public final class FaultTest {
    public static void main(String[] args) {
        Checks checks = new Checks("fault");
        none(checks);
        misplaced(checks);
        misplacedInStatements(checks);
        unknown(checks);
        caughtNames(checks);
        twice(checks);
        jumps(checks);
        arms(checks);
        kinds(checks);
        depths(checks);
        latest(checks);
        checks.end();
    }

    private static void none(Checks checks) {
        checks.faulty("#", 1, 0);
        checks.faulty("log 1234567890;", 1, 4);
        checks.faulty("log 0000000001;", 1, 4);
        checks.faulty("log abcdefghi;", 1, 4);
        checks.faulty("continues:;", 1, 0);
        checks.faulty("if(a<1&b<1);", 1, 6);
        checks.faulty("Log 1;", 1, 0);
        checks.faulty("log 1\t;", 1, 5);
        checks.faulty("log x_;", 3, 4);
        checks.faulty("log a_;", 1, 5);
        checks.faulty("log 1;\u00ff", 1, 6);
        checks.faulty("log 1;\0", 1, 6);
        checks.faulty("log 1 # log 2 ) ", 1, 6);
        checks.faulty("log ) #", 2, 4);
        checks.faulty("break #", 5, 0);
        checks.faulty("while(true)break #", 1, 17);
    }

    private static void misplaced(Checks checks) {
        checks.faulty("log 1", 2, 5);
        checks.faulty("log 1 \n", 2, 7);
        checks.faulty("{", 2, 1);
        checks.faulty("}", 2, 0);
        checks.faulty("log 1;}", 2, 6);
        checks.faulty("log;", 2, 3);
        checks.faulty("log 1 2;", 2, 6);
        checks.faulty("log 12a;", 2, 6);
        checks.faulty("log m0;", 2, 4);
        checks.faulty("log r0;", 2, 4);
        checks.faulty("log e0;", 2, 4);
        checks.faulty("log true;", 2, 4);
        checks.faulty("log a++;", 2, 5);
        checks.faulty("log a+++b;", 2, 5);
        checks.faulty("log +a;", 2, 4);
        checks.faulty("log (a;", 2, 6);
        checks.faulty("log [a];", 2, 4);
        checks.faulty("log a<b;", 2, 5);
        checks.faulty("int if=1;", 2, 4);
        checks.faulty("int x;", 2, 5);
        checks.faulty("int x+1;", 2, 5);
        checks.faulty("int x==1;", 2, 5);
        checks.faulty("a+1;", 2, 1);
        checks.faulty("a;", 2, 1);
        checks.faulty("a->1;", 2, 1);
        checks.faulty("1:;", 2, 0);
        checks.faulty("x:", 2, 2);
        checks.faulty("x:}", 2, 2);
        checks.faulty("else;", 2, 0);
        checks.faulty("if(a<1);else;else;", 2, 13);
        checks.faulty("case 1:;", 2, 0);
        checks.faulty("catch(e0 x){}", 2, 0);
        checks.faulty("true;", 2, 0);
    }

    private static void misplacedInStatements(Checks checks) {
        checks.faulty("if(a)log 1;", 2, 4);
        checks.faulty("if(a<1<2);", 2, 6);
        checks.faulty("if([a<1)log 1;", 2, 7);
        checks.faulty("if(!);", 2, 4);
        checks.faulty("if((a<1));", 2, 5);
        checks.faulty("if a<1;", 2, 3);
        checks.faulty("if(a<1)int x=1;", 2, 7);
        checks.faulty("if(a<1);else var x=1;", 2, 13);
        checks.faulty("while(a<1)int x=1;", 2, 10);
        checks.faulty("do int x=1;while(a<1);", 2, 3);
        checks.faulty("for(;;)int x=1;", 2, 7);
        checks.faulty("for(int i:1)var x=1;", 2, 12);
        checks.faulty("x:int y=1;", 2, 2);
        checks.faulty("do;while(a<1)", 2, 13);
        checks.faulty("do;log 1;", 2, 3);
        checks.faulty("for(var x=1;;);", 2, 4);
        checks.faulty("for(a++;;);", 2, 5);
        checks.faulty("for(;);", 2, 5);
        checks.faulty("for(;;log 1);", 2, 6);
        checks.faulty("for(;;a++;);", 2, 9);
        checks.faulty("for(int i:);", 2, 10);
        checks.faulty("for(int i:1,);", 2, 12);
        checks.faulty("for(int i:null,1);", 2, 14);
        checks.faulty("for(int i);", 2, 9);
        checks.faulty("lock(m8){}", 2, 5);
        checks.faulty("lock(1){}", 2, 5);
        checks.faulty("lock(m0);", 2, 8);
        checks.faulty("switch(a)log 1;", 2, 9);
        checks.faulty("switch(a){log 1;}", 2, 10);
        checks.faulty("switch(a){case a:}", 2, 15);
        checks.faulty("switch(a){case - -1:}", 2, 17);
        checks.faulty("switch(a){case 1,2:}", 2, 16);
        checks.faulty("switch(a){case 1->2;}", 2, 16);
        checks.faulty("switch(a){default->2;}", 2, 17);
        checks.faulty("try{}", 2, 5);
        checks.faulty("try{}log 1;", 2, 5);
        checks.faulty("try with{}", 2, 8);
        checks.faulty("try with r0,{}", 2, 12);
        checks.faulty("try with r8{}", 2, 9);
        checks.faulty("try;finally{}", 2, 3);
        checks.faulty("try{}catch(x){}", 2, 11);
        checks.faulty("try{}catch(e0){}", 2, 13);
        checks.faulty("try{}catch(e0|x){}", 2, 14);
        checks.faulty("try{}catch(e0||e1 x){}", 2, 13);
        checks.faulty("try{}catch(e0 x);", 2, 16);
        checks.faulty("try{}finally{}catch(e0 x){}", 2, 14);
        checks.faulty("try{}finally{}finally{}", 2, 14);
        checks.faulty("throw 1;", 2, 6);
        checks.faulty("throw e0;", 2, 8);
        checks.faulty("return;", 2, 6);
        checks.faulty("assert;", 2, 6);
        checks.faulty("assert a:1;", 2, 8);
        checks.faulty("while(true)break 1;", 2, 17);
        checks.faulty("x:while(true)break x 1;", 2, 21);
    }

    private static void unknown(Checks checks) {
        checks.faulty("log x;", 3, 4);
        checks.faulty("x=1;", 3, 0);
        checks.faulty("x++;", 3, 0);
        checks.faulty("x;", 3, 0);
        checks.faulty("int x=x;", 3, 6);
        checks.faulty("{int x=1;}log x;", 3, 14);
        checks.faulty("for(int i=i;;);", 3, 10);
        checks.faulty("for(int i:i);", 3, 10);
        checks.faulty("for(int i:1);log i;", 3, 17);
        checks.faulty("for(int i=0;i<1;i++);log i;", 3, 25);
        checks.faulty("for(x=1;;);", 3, 4);
        checks.faulty("for(;;x++);", 3, 6);
        checks.faulty("switch(a){case 1:int x=1;}log x;", 3, 30);
        checks.faulty("lock(m0){int x=1;}log x;", 3, 22);
        checks.faulty("try{int x=1;}finally{log x;}", 3, 25);
        checks.faulty("throw x;", 3, 6);
        checks.faulty("throw a;", 3, 6);
        checks.faulty("throw e4 1;", 3, 6);
        checks.faulty("throw e11 1;", 3, 6);
        checks.faulty("throw e12 1;", 3, 6);
        checks.faulty("try{}catch(e4 x){}", 3, 11);
        checks.faulty("while(true)break x;", 3, 17);
        checks.faulty("break x;", 3, 6);
        checks.faulty("x:;while(true)continue x;", 3, 23);
        checks.faulty("int x=1;while(true)break x;", 3, 25);
        checks.faulty("x:log x;", 3, 6);
    }

    private static void caughtNames(Checks checks) {
        checks.faulty("try{}catch(e0 x){x=1;}", 3, 17);
        checks.faulty("try{}catch(e0 x){x++;}", 3, 17);
        checks.faulty("try{}catch(e0 x){for(x=1;;);}", 3, 21);
        checks.faulty("try{}catch(e0 x){for(;;x++);}", 3, 23);
        checks.faulty("try{}catch(e0 x){log x;}log x;", 3, 28);
        checks.faulty("try{}catch(e0 x){}finally{log x;}", 3, 30);
        checks.faulty("try{}catch(e1 x){}catch(e2 y){throw x;}", 3, 36);
        checks.faulty("try{}catch(e0 x){int y=x;throw y;}", 3, 31);
        checks.sound("try{}catch(e0 x){int y=x;y++;throw x;}", 4);
    }

    private static void twice(Checks checks) {
        checks.faulty("int a=1;", 4, 4);
        checks.faulty("var b=1;", 4, 4);
        checks.faulty("int x=1;int x=2;", 4, 12);
        checks.faulty("int x=1;{int x=2;}", 4, 13);
        checks.faulty("int x=1;for(int x=2;;);", 4, 16);
        checks.faulty("int x=1;for(int x:2);", 4, 16);
        checks.faulty("for(int i:1)for(int i:2);", 4, 20);
        checks.faulty("int x=1;try{}catch(e0 x){}", 4, 22);
        checks.faulty("try{}catch(e0 x){int x=1;}", 4, 21);
        checks.faulty("try{}catch(e0 a){}", 4, 14);
        checks.faulty("int x=1;log switch(a){default->{int x=2;yield x;}};", 4, 36);
        checks.faulty("switch(a){case 1:int x=1;case 2:int x=2;}", 4, 36);
        checks.faulty("x:x:;", 4, 2);
        checks.faulty("x:{y:{x:;}}", 4, 6);
        checks.faulty("switch(a){case 1:case 1:}", 4, 22);
        checks.faulty("switch(a){case 0:case -0:}", 4, 23);
        checks.faulty("switch(a){case -1:case 01:case - 1:}", 4, 33);
        checks.faulty("switch(a){default:default:}", 4, 18);
        checks.faulty("log switch(a){case 1,1->2;default->3;};", 4, 21);
        checks.faulty("log switch(a){case 1->2;case 1->3;default->3;};", 4, 29);
        checks.faulty("log switch(a){default->2;default->3;};", 4, 25);
        checks.sound("switch(a){case 1:switch(b){case 1:}case 2:}", 2);
    }

    private static void jumps(Checks checks) {
        checks.faulty("break;", 5, 0);
        checks.faulty("continue;", 5, 0);
        checks.faulty("break 1;", 5, 0);
        checks.faulty("continue", 5, 0);
        checks.faulty("x:break;", 5, 2);
        checks.faulty("x:continue x;", 5, 11);
        checks.faulty("x:{while(true)continue x;}", 5, 23);
        checks.faulty("x:if(a<1)while(true)continue x;", 5, 29);
        checks.faulty("while(true)x:continue x;", 5, 22);
        checks.faulty("switch(a){case 1:continue;}", 5, 17);
        checks.faulty("if(a<1)break;", 5, 7);
        checks.faulty("while(a<1);break;", 5, 11);
        checks.faulty("yield 1;", 5, 0);
        checks.faulty("switch(a){case 1:yield 1;}", 5, 17);
        checks.faulty("yield", 5, 0);
        checks.sound("x:y:while(true){continue x;}", 5);
        checks.sound("x:{break x;}", 3);
        checks.sound("x:break x;", 2);
        checks.sound("x:do{continue x;}while(a<1);", 4);
        checks.sound("while(a<1)switch(b){case 1:continue;case 2:break;}", 4);
        checks.sound("while(a<1)try{continue;}finally{}", 3);
    }

    private static void arms(Checks checks) {
        checks.faulty("log switch(a){};", 2, 14);
        checks.faulty("log switch(a){case 1->2;};", 2, 24);
        checks.faulty("log switch(a){default:2;};", 2, 21);
        checks.faulty("log switch(a){default->2};", 2, 24);
        checks.faulty("log switch(a){default->log 2;};", 2, 23);
        checks.faulty("log switch(a){default->{yield 2;};};", 2, 33);
        checks.faulty("log switch(a){1->2;default->2;};", 2, 14);
        checks.faulty("log switch(a){case->2;default->2;};", 2, 18);
        checks.faulty("log switch(a){case 1,default->2;};", 2, 21);
        checks.faulty("log switch(a){default->{return 1;}};", 5, 24);
        checks.faulty("while(true){log switch(a){default->{break;}};}", 5, 36);
        checks.faulty("while(true){log switch(a){default->{continue;}};}", 5, 36);
        checks.faulty("switch(b){case 1:log switch(a){default->{break;}};}", 5, 41);
        checks.faulty("x:while(true){log switch(a){default->{break x;}};}", 3, 44);
        checks.faulty("log switch(a){default->{while(true){return 1;}}};", 5, 36);
        checks.faulty("log switch(a){default->{yield 1;}}+1;yield 2;", 5, 37);
        checks.sound("log switch(a){default->{while(true){yield 1;}}};", 4);
        checks.sound("log switch(a){default->{switch(b){default:yield 1;}}};", 3);
        checks.sound("log switch(a){default->{while(true){if(a<1)continue;break;}yield 1;}};", 7);
    }

    private static void kinds(Checks checks) {
        checks.faulty("try{}catch(e1 x){}catch(e1 x){}", 6, 24);
        checks.faulty("try{}catch(e0 x){}catch(e1 x){}", 6, 24);
        checks.faulty("try{}catch(e0|e1 x){}", 6, 14);
        checks.faulty("try{}catch(e1|e1 x){}", 6, 14);
        checks.faulty("try{}catch(e1|e2 x){}catch(e3|e2 y){}", 6, 30);
        checks.sound("try{}catch(e1|e0 x){}", 1);
        checks.sound("try{}catch(e0 x){try{}catch(e0 y){}}", 2);
        checks.sound("try{try{}catch(e1 x){}}catch(e1 x){}", 2);
        StatementRules2 x = new StatementRules2();
        x.kind(1);
        x.kind(4);
        checks.faulty(x, "try{}catch(e1 x){}catch(e2|e5 x){}", 6, 27);
        checks.faulty(x, "try{}catch(e4 x){}catch(e6 x){}", 3, 24);
        checks.sound(x, "try{}catch(e5 x){}catch(e4 x){}catch(e1 x){}catch(e0 x){}", 1);
    }

    private static void depths(Checks checks) {
        checks.sound(Checks.repeat("{", 20) + Checks.repeat("}", 20), 20);
        checks.faulty(Checks.repeat("{", 21) + Checks.repeat("}", 21), 6, 20);
        checks.sound("log " + Checks.repeat("(", 20) + "1" + Checks.repeat(")", 20) + ";", 1);
        checks.faulty("log " + Checks.repeat("(", 21) + "1" + Checks.repeat(")", 21) + ";", 6, 24);
        checks.sound("log " + Checks.repeat("-", 20) + "1;", 1);
        checks.faulty("log " + Checks.repeat("-", 21) + "1;", 6, 24);
        checks.sound("log " + Checks.repeat("-", 20) + "1" + Checks.repeat("- -1", 20) + ";", 1);
        checks.sound("if(" + Checks.repeat("!", 19) + "true);", 2);
        checks.faulty("if(" + Checks.repeat("!", 20) + "true);", 6, 22);
        checks.sound("if(" + Checks.repeat("[", 19) + "true" + Checks.repeat("]", 19) + ");", 2);
        checks.faulty("if(" + Checks.repeat("[", 20) + "true" + Checks.repeat("]", 20) + ");", 6, 22);
        checks.sound("if(" + Checks.repeat("!", 19) + "true&&" + Checks.repeat("!", 19) + "true);", 2);
        checks.faulty(Checks.repeat("{", 20) + "log (1);" + Checks.repeat("}", 20), 6, 24);
        checks.faulty(Checks.repeat("{", 20) + "if(true);" + Checks.repeat("}", 20), 6, 22);
        checks.faulty(Checks.repeat("{", 20) + ")", 2, 20);
        checks.sound(Checks.repeat("{", 19) + "switch(a){case -1:}" + Checks.repeat("}", 19), 20);
        checks.sound("log " + Checks.repeat("switch(a){default->", 20) + "1" + Checks.repeat(";}", 20) + ";", 1);
        checks.faulty("log " + Checks.repeat("switch(a){default->", 21) + "1" + Checks.repeat(";}", 21) + ";", 6,
            4 + 20 * 19 + 6);
        checks.sound(Checks.repeat("{}", 30) + Checks.repeat("log (1);", 30), 60);
    }

    private static void latest(Checks checks) {
        StatementRules2 x = new StatementRules2();
        checks.same("none was asked", x.fault(), 0);
        checks.faulty(x, "log", 2, 3);
        checks.same("asked again", x.fault(), 2);
        checks.sound(x, "log 1;", 1);
        checks.same("none, asked again", x.fault(), 0);
        checks.faulty(x, "log 1;log 2;log z;log 1234567890", 3, 16);
        checks.faulty(x, "return 1;log 2;log z;", 3, 19);
    }
}
