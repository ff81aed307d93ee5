/** Promise 7: what is a program, and how many S it has. */
public final class ReadTest {
    public static void main(String[] args) {
        Checks checks = new Checks("read");
        statements(checks);
        formulas(checks);
        tokens(checks);
        scopes(checks);
        kindsOfLater(checks);
        again(checks);
        checks.end();
    }

    private static void statements(Checks checks) {
        checks.sound("", 0);
        checks.sound(" \n ", 0);
        checks.sound("{}", 1);
        checks.sound(";;", 2);
        checks.sound("int x=1;var y=x;x=y;y++;log x;", 5);
        checks.sound("x:y:z:{}", 4);
        checks.sound("return 1;", 1);
        checks.sound("throw e0 1;", 1);
        checks.sound("assert a<1;assert true:a;", 2);
        checks.sound("if(a<1);if(a<1);else;if(a<1)if(b<1);else;", 9);
        checks.sound("while(a<1);do;while(a<1);", 4);
        checks.sound("for(;a<1;);for(a=1;a<1;a=2);for(int i=1;i<1;i++){}", 6);
        checks.sound("for(int i:1,2,a+b)log i;for(int i:null);", 4);
        checks.sound("lock(m0){}lock(null){log 1;}", 3);
        checks.sound("switch(a){}switch(a){case 1:case -1:;default:;;}", 5);
        checks.sound("try{}catch(e1 x){}try{}finally{}try with r0{}", 3);
        checks.sound("try with r7,r0{;}catch(e1|e2 x){;}catch(e0 y){;}finally{;}", 5);
        checks.sound("l:while(a<1){if(a<2)break l;if(a<3)continue l;if(b<1)break;continue;}", 10);
        checks.sound("log switch(a){case 1,-2,3->4;case 5->{;yield 6;}default->7;};", 3);
        checks.sound("log switch(a){default->switch(b){default->{yield 1;}};};", 2);
    }

    private static void formulas(Checks checks) {
        checks.sound("log 1+2-3*4/5%6;", 1);
        checks.sound("log -(a)- -b*(1+-2);", 1);
        checks.sound("if(a<1&&b<=2||a>3&&b>=4||a==5&&b!=6);", 2);
        checks.sound("if(![a<1||true]&&!!false);", 2);
        checks.sound("if((a)<(1));", 2);
        checks.sound("while(switch(a){default->1;}<2);", 2);
    }

    private static void tokens(Checks checks) {
        checks.sound("log 000000001;log 999999999;", 2);
        checks.sound("int\nint1\n=\n1;log int1;", 2);
        checks.sound("int abcdefgh=1;", 1);
        checks.sound("int a1b2c3d4=1;", 1);
        checks.sound("int m8=1;int r8=m8;int e12=r8;int m00=1;int e01=1;int m=1;int r10=1;int ex=1;", 8);
        checks.sound("a=1;a++;if(a==-1);if(a<-1);", 6);
        checks.sound("log a-b;log a- -b;log a--b;", 3);
        checks.sound("iff:;", 2);
        checks.sound("log 1\n;\n", 1);
    }

    /** Names that may be told where they are. */
    private static void scopes(Checks checks) {
        checks.sound("{int x=1;}{int x=1;}int x=1;", 5);
        checks.sound("for(int i=0;i<1;i++);for(int i:1);int i=1;", 5);
        checks.sound("try{}catch(e1 x){}catch(e2 x){}int x=1;", 2);
        checks.sound("int x=switch(a){default->{int x=1;yield x;}};", 3);
        checks.sound("for(int x:switch(a){default->{int x=1;yield x;}});", 4);
        checks.sound("switch(a){case 1:int z=1;default:log z;}int z=1;", 4);
        checks.sound("a:b:for(;;){break a;}", 5);
        checks.sound("x:;x:;int x=1;x:x=2;", 7);
        checks.sound("x:log switch(a){default->{x:;yield 1;}};", 5);
        checks.sound("for(int i=0;i<1;i++);", 2);
        checks.sound("try{throw e1 2;}catch(e0 x){try{throw x;}finally{log x;}}", 5);
    }

    private static void kindsOfLater(Checks checks) {
        StatementRules2 x = new StatementRules2();
        checks.faulty(x, "throw e4 1;", 3, 6);
        x.kind(0);
        checks.sound(x, "throw e4 1;", 1);
        x.kind(4);
        checks.same("run", x.run(0, 0), 2);
        checks.same("its kind", x.ran(3), 4);
        checks.sound(x, "try{throw e5 1;}catch(e4 x){}", 2);
    }

    private static void again(Checks checks) {
        StatementRules2 x = new StatementRules2();
        checks.sound(x, "int x=1;x:;", 3);
        checks.sound(x, "int x=1;x:;", 3);
        checks.faulty(x, "{{{{int y=1;lock(m1){log z;", 3, 25);
        checks.sound(x, "int y=1;log y;", 2);
        checks.same("an empty tape is a program", x.read(), 0);
        checks.same("that runs", x.run(0, 0), 0);
    }
}
