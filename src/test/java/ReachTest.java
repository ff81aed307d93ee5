/** Promises 7 to 9: what can END and what is REACHED, by the FAULT 7 and by program(1). */
public final class ReachTest {
    public static void main(String[] args) {
        Checks checks = new Checks("reach");
        jumps(checks);
        choices(checks);
        loops(checks);
        labels(checks);
        switches(checks);
        tries(checks);
        arms(checks);
        checks.end();
    }

    /** A statement that can END, told twice: by program(1), and by another one behind it. */
    private static void ends(Checks checks, String text) {
        checks.same("program(1) of " + text, Checks.reading(text).program(1), 1);
        checks.same("fault() of " + text + " log 1;", Checks.reading(text + " log 1;").fault(), 0);
    }

    private static void endsNot(Checks checks, String text) {
        checks.same("program(1) of " + text, Checks.reading(text).program(1), 0);
        checks.faulty(text + " log 1;", 7, text.length() + 1);
    }

    private static void jumps(Checks checks) {
        ends(checks, "{}");
        ends(checks, "{int x=1;var y=1;x=1;x++;log x;assert false;;}");
        endsNot(checks, "return 1;");
        endsNot(checks, "throw e0 1;");
        endsNot(checks, "{return 1;}");
        endsNot(checks, "{{throw e0 1;}}");
        endsNot(checks, "lock(m0){return 1;}");
        ends(checks, "lock(m0){log 1;}");
        ends(checks, "lock(null){}");
        checks.faulty("return 1;{}", 7, 9);
        checks.faulty("return 1;x:;", 7, 9);
        checks.faulty("{return 1;;}", 7, 10);
        checks.faulty("while(a<1){break;;}", 7, 17);
        checks.faulty("while(a<1){continue;;}", 7, 20);
        checks.faulty("return 1;;;", 7, 9);
        checks.faulty("try{}catch(e0 x){throw x;;}", 7, 25);
    }

    private static void choices(Checks checks) {
        ends(checks, "if(true)return 1;");
        ends(checks, "if(false)return 1;");
        ends(checks, "if(a<1)return 1;else;");
        ends(checks, "if(a<1);else return 1;");
        endsNot(checks, "if(a<1)return 1;else return 2;");
        endsNot(checks, "if(false)return 1;else if(a<1)return 2;else throw e0 1;");
        ends(checks, "if(a<1)if(a<2)return 2;else return 3;");
    }

    private static void loops(Checks checks) {
        endsNot(checks, "while(true);");
        ends(checks, "while(false)return 1;");
        ends(checks, "while([true]);");
        ends(checks, "while(!false);");
        ends(checks, "while(true&&true);");
        ends(checks, "while(true||false);");
        ends(checks, "while(1<2);");
        ends(checks, "while(true)break;");
        ends(checks, "while(true){if(a<1)break;}");
        endsNot(checks, "while(true){while(true)break;}");
        endsNot(checks, "while(true)continue;");
        endsNot(checks, "for(;;);");
        endsNot(checks, "for(;true;);");
        ends(checks, "for(;a<1;);");
        ends(checks, "for(;;)break;");
        ends(checks, "for(int i:1)return 1;");
        ends(checks, "for(int i:null)return 1;");
        endsNot(checks, "do;while(true);");
        ends(checks, "do;while(a<1);");
        endsNot(checks, "do return 1;while(a<1);");
        ends(checks, "do continue;while(a<1);");
        endsNot(checks, "do continue;while(true);");
        ends(checks, "do break;while(true);");
        ends(checks, "do{if(a<1)break;return 1;}while(a<1);");
        endsNot(checks, "do{while(true){if(a<1)continue;return 1;}}while(a<1);");
    }

    private static void labels(Checks checks) {
        ends(checks, "x:break x;");
        ends(checks, "x:{if(a<1)break x;return 1;}");
        endsNot(checks, "x:return 1;");
        endsNot(checks, "x:while(true)continue x;");
        ends(checks, "x:while(true){while(true)break x;}");
        endsNot(checks, "y:{x:while(true){while(true)break x;}return 1;}");
        ends(checks, "x:do{while(true)continue x;}while(a<1);");
        ends(checks, "x:y:do{while(true)continue x;}while(a<1);");
        endsNot(checks, "x:do{while(true)continue x;}while(true);");
        checks.faulty("x:while(true){y:while(true)break x;;}", 7, 35);
    }

    private static void switches(Checks checks) {
        ends(checks, "switch(a){}");
        ends(checks, "switch(a){default:}");
        ends(checks, "switch(a){case 1:return 1;}");
        ends(checks, "switch(a){default:return 1;case 1:}");
        endsNot(checks, "switch(a){default:return 1;}");
        endsNot(checks, "switch(a){default:;case 1:return 1;}");
        ends(checks, "switch(a){default:break;}");
        ends(checks, "switch(a){case 1:break;default:return 1;}");
        ends(checks, "switch(a){case 1:if(b<1)break;default:return 1;}");
        endsNot(checks, "while(true)switch(a){default:continue;}");
        endsNot(checks, "while(true)switch(a){default:break;}");
        checks.faulty("switch(a){case 1:return 1;;case 2:}", 7, 26);
        checks.sound("switch(a){case 1:return 1;case 2:;}", 3);
        checks.sound("switch(a){case 1:break;default:log 1;}", 3);
    }

    private static void tries(Checks checks) {
        ends(checks, "try{}finally{}");
        endsNot(checks, "try{return 1;}finally{}");
        endsNot(checks, "try{}finally{return 1;}");
        ends(checks, "try{return 1;}catch(e0 x){}");
        ends(checks, "try{}catch(e0 x){return 1;}");
        endsNot(checks, "try{return 1;}catch(e0 x){throw x;}");
        ends(checks, "try{return 1;}catch(e1 x){throw x;}catch(e2 x){}");
        endsNot(checks, "try{}catch(e0 x){}finally{throw e0 1;}");
        ends(checks, "try with r0{}");
        endsNot(checks, "try with r0{return 1;}");
        ends(checks, "while(true){try{break;}finally{}}");
        endsNot(checks, "while(true){try{break;}finally{return 1;}}");
        endsNot(checks, "while(true){try{}catch(e0 x){break;}finally{return 1;}}");
        ends(checks, "while(true){try{}finally{break;}}");
        endsNot(checks, "x:{try{break x;}finally{return 1;}}");
        endsNot(checks, "do{try{continue;}finally{return 1;}}while(a<1);");
        ends(checks, "x:{if(a<1)break x;try{break x;}finally{return 1;}}");
        ends(checks, "while(true){try{try{break;}finally{}}finally{}}");
        endsNot(checks, "while(true){try{try{break;}finally{}}finally{return 1;}}");
        ends(checks, "try{while(true)break;}finally{}");
        endsNot(checks, "x:{try{while(true){break;}break x;}finally{return 1;}}");
        checks.faulty("try{return 1;;}finally{}", 7, 13);
        checks.faulty("try{}finally{return 1;;}", 7, 22);
        checks.sound("try{return 1;}catch(e0 x){log 1;}finally{log 2;}", 4);
    }

    private static void arms(Checks checks) {
        checks.faulty("log switch(a){default->{}};", 7, 24);
        checks.faulty("log switch(a){default->{log 1;}};", 7, 30);
        checks.faulty("log switch(a){default->{if(a<1)yield 1;}};", 7, 39);
        checks.faulty("log switch(a){default->{while(true)break;yield 1;;}};", 7, 49);
        checks.faulty("log switch(a){case 1->{;}default->{yield 1;;}};", 7, 24);
        checks.faulty("return 1;log switch(a){default->{}};", 7, 9);
        checks.faulty("do return 1;while(switch(a){default->{}}<1);", 7, 38);
        ends(checks, "log switch(a){default->{throw e0 1;}};");
        ends(checks, "log switch(a){default->{yield 1;}};");
        ends(checks, "log switch(a){default->{while(true);}};");
        ends(checks, "log switch(a){default->{if(a<1)yield 1;else throw e0 1;}};");
        endsNot(checks, "return switch(a){default->{yield 1;}};");
        endsNot(checks, "do return 1;while(switch(a){default->{yield 1;}}<1);");
    }
}
