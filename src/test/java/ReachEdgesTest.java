/** WHAT CAN END and what is REACHED, each rule with all that it asks about, both ways. */
public final class ReachEdgesTest {
    private static final String[] CAN = {";", "{}", "int q=1;", "log 1;", "assert false;", "a++;"};
    private static final String[] CANNOT = {"return 1;", "throw e0 1;", "{return 1;}", "while(true);"};
    private static final String[] NEVER_FALSE = {"true"};
    private static final String[] MAY_BE_BOTH = {"false", "[true]", "!false", "!!true", "true&&true", "true||true",
        "1<2",
        "a<1", "[false]", "![true]"};

    public static void main(String[] args) {
        Checks checks = new Checks("reach edges");
        blocks(checks);
        ifs(checks);
        whilesAndFors(checks);
        dos(checks);
        rowsAndLocks(checks);
        labels(checks);
        groups(checks);
        tries(checks);
        jumpsFromTries(checks);
        jumpsFromTwoTries(checks);
        oneBehindTheOther(checks);
        arms(checks);
        firstFault(checks);
        checks.end();
    }

    /** Told twice: by program(1), and by a S behind it. */
    private static void ends(Checks checks, String text, boolean due) {
        StatementRules2 x = Checks.reading(text);
        checks.same("fault() of " + text, x.fault(), 0);
        checks.same("program(1) of " + text, x.program(1), due ? 1 : 0);
        Checks.put(x, text + " log 1;");
        int answer = x.read();
        checks.same("fault() of " + text + " log 1;", x.fault(), due ? 0 : 7);
        checks.same("read() of " + text + " log 1;", due ? -1 : answer, due ? -1 : -11 - text.length());
        String within = "switch(b){default:{" + text + "}}";
        checks.same("program(1) of " + within, Checks.reading(within).program(1), due ? 1 : 0);
    }

    private static String part(boolean can) {
        return can ? ";" : "return 1;";
    }

    private static void blocks(Checks checks) {
        for (String can : CAN) {
            ends(checks, can, true);
            ends(checks, "{" + can + "}", true);
            ends(checks, can + can.replace('q', 'r'), true);
            for (String cannot : CANNOT) {
                ends(checks, can + cannot, false);
                checks.faulty(cannot + can, 7, cannot.length());
                checks.faulty("{" + cannot + can + "}", 7, cannot.length() + 1);
                checks.faulty("lock(m0){" + cannot + can + "}", 7, cannot.length() + 9);
            }
        }
        for (String cannot : CANNOT) {
            ends(checks, cannot, false);
        }
        ends(checks, "", true);
        ends(checks, "{}", true);
        ends(checks, "{{{}}}", true);
    }

    private static void ifs(Checks checks) {
        for (String condition : MAY_BE_BOTH) {
            ends(checks, "if(" + condition + ")return 1;", true);
        }
        for (String condition : new String[] {"true", "false", "a<1"}) {
            ends(checks, "if(" + condition + ")return 1;", true);
            for (int bits = 0; bits < 4; bits++) {
                boolean first = (bits & 1) != 0;
                boolean second = (bits & 2) != 0;
                ends(checks, "if(" + condition + ")" + part(first) + "else " + part(second), first || second);
            }
        }
    }

    private static void whilesAndFors(Checks checks) {
        for (String condition : NEVER_FALSE) {
            loops(checks, condition, true);
        }
        for (String condition : MAY_BE_BOTH) {
            loops(checks, condition, false);
        }
        ends(checks, "for(;;);", false);
        ends(checks, "for(;;)break;", true);
        ends(checks, "for(int i=0;;i++){if(i<1)break;}", true);
        ends(checks, "for(int i=0;;i++){if(i<1)continue;}", false);
    }

    private static void loops(Checks checks, String condition, boolean never) {
        for (String head : new String[] {"while(" + condition + ")", "for(;" + condition + ";)"}) {
            ends(checks, head + ";", !never);
            ends(checks, head + "return 1;", !never);
            ends(checks, head + "continue;", !never);
            ends(checks, head + "break;", true);
            ends(checks, head + "{if(a<1)break;return 1;}", true);
            ends(checks, head + "{while(a<1)break;}", !never);
            ends(checks, head + "switch(a){case 1:break;}", !never);
            ends(checks, head + "{x:{break x;}}", !never);
            ends(checks, "x:" + head + "{while(true)break x;}", true);
        }
    }

    private static void dos(Checks checks) {
        for (int i = 0; i < MAY_BE_BOTH.length + 1; i++) {
            boolean never = i == MAY_BE_BOTH.length;
            String rest = "while(" + (never ? "true" : MAY_BE_BOTH[i]) + ");";
            ends(checks, "do;" + rest, !never);
            ends(checks, "do return 1;" + rest, false);
            ends(checks, "do continue;" + rest, !never);
            ends(checks, "do break;" + rest, true);
            ends(checks, "do{if(a<1)continue;return 1;}" + rest, !never);
            ends(checks, "do{if(a<1)break;return 1;}" + rest, true);
            ends(checks, "do{while(true){if(a<1)continue;}}" + rest, false);
            ends(checks, "x:do{while(true)continue x;}" + rest, !never);
            ends(checks, "x:do{while(true)break x;}" + rest, true);
            ends(checks, "do{x:while(true)continue x;}" + rest, false);
        }
    }

    private static void rowsAndLocks(Checks checks) {
        for (String body : new String[] {";", "return 1;", "break;", "continue;", "throw e0 1;", "while(true);"}) {
            ends(checks, "for(int i:1)" + body, true);
            ends(checks, "for(int i:null)" + body, true);
        }
        ends(checks, "lock(m0){}", true);
        ends(checks, "lock(null){}", true);
        ends(checks, "lock(m0){return 1;}", false);
        ends(checks, "lock(null){return 1;}", false);
        ends(checks, "while(true)lock(m0){break;}", true);
    }

    private static void labels(Checks checks) {
        ends(checks, "x:;", true);
        ends(checks, "x:return 1;", false);
        ends(checks, "x:break x;", true);
        ends(checks, "x:{if(a<1)break x;return 1;}", true);
        ends(checks, "x:y:break x;", true);
        ends(checks, "x:y:break y;", true);
        ends(checks, "x:{y:{break x;}}", true);
        ends(checks, "x:{while(true){break x;}}", true);
        checks.marked("x:{y:{break x;}@;}", 7);
        checks.marked("x:{while(true){break x;}@;}", 7);
        checks.marked("x:{break x;@;}", 7);
        ends(checks, "x:while(true)continue x;", false);
        ends(checks, "x:lock(m0){break x;}", true);
        ends(checks, "x:try{break x;}catch(e0 y){return 1;}", true);
    }

    private static void groups(Checks checks) {
        for (int bits = 0; bits < 16; bits++) {
            boolean last = (bits & 1) != 0;
            boolean first = (bits & 2) != 0;
            boolean hasDefault = (bits & 4) != 0;
            boolean breaks = (bits & 8) != 0;
            String head = hasDefault ? "default:" : "case 2:";
            String middle = breaks ? "case 5:if(a<1)break;return 1;" : "case 5:return 1;";
            String text = "switch(a){" + head + part(first) + middle + "case 3:" + part(last) + "}";
            ends(checks, text, last || !hasDefault || breaks);
            text = "switch(a){case 7:" + part(first) + middle + head + part(last) + "}";
            ends(checks, text, last || !hasDefault || breaks);
        }
        ends(checks, "switch(a){}", true);
        ends(checks, "switch(a){default:}", true);
        ends(checks, "switch(a){default:return 1;case 1:}", true);
        ends(checks, "switch(a){case 1:return 1;default:}", true);
        ends(checks, "switch(a){default:while(true)break;}", true);
        ends(checks, "switch(a){default:while(true){if(a<1)break;return 1;}return 2;}", false);
        ends(checks, "x:switch(a){default:break x;}", true);
        checks.marked("switch(a){case 1:break;@;}", 7);
        checks.marked("switch(a){case 1:return 1;@;case 2:}", 7);
        checks.marked("switch(a){case 1:;case 2:return 1;default:return 2;@;}", 7);
        checks.sound("switch(a){case 1:return 1;case 2:return 2;default:return 3;}", 4);
    }

    private static void tries(Checks checks) {
        String[] finals = {"", "finally{;}", "finally{return 2;}"};
        for (int bits = 0; bits < 8; bits++) {
            boolean body = (bits & 1) != 0;
            boolean first = (bits & 2) != 0;
            boolean second = (bits & 4) != 0;
            for (int last = 0; last < 3; last++) {
                String catches = "catch(e1 x){" + part(first) + "}catch(e2 x){" + part(second) + "}";
                boolean due = last < 2 && (body || first || second);
                ends(checks, "try{" + part(body) + "}" + catches + finals[last], due);
                ends(checks, "try with r0{" + part(body) + "}" + catches + finals[last], due);
                ends(checks, "try with r0{" + part(body) + "}" + finals[last], last < 2 && body);
            }
        }
        ends(checks, "try{}finally{}", true);
        ends(checks, "try{return 1;}finally{}", false);
        ends(checks, "try{}finally{return 1;}", false);
        checks.sound("try{return 1;}catch(e0 x){log 1;}finally{log 2;}", 4);
        checks.sound("try{while(true);}catch(e0 x){log 1;}finally{log 2;}", 5);
        checks.marked("try{return 1;@;}finally{}", 7);
        checks.marked("try{}catch(e0 x){return 1;@;}", 7);
        checks.marked("try{}finally{return 1;@;}", 7);
        checks.marked("try{return 1;}catch(e0 x){throw x;}@;", 7);
    }

    /** A break, continue goes from a try with finally only if that can END. */
    private static void jumpsFromTries(Checks checks) {
        String[] finals = {"finally{}", "finally{if(b<1)return 2;}", "finally{return 2;}", "finally{while(true);}"};
        for (int i = 0; i < 4; i++) {
            boolean goes = i < 2;
            ends(checks, "while(true){try{break;}" + finals[i] + "}", goes);
            ends(checks, "while(true){try{}catch(e0 x){break;}" + finals[i] + "}", goes);
            ends(checks, "while(true){try{if(a<1)break;}" + finals[i] + "}", goes);
            ends(checks, "x:{try{break x;}" + finals[i] + "}", goes);
            ends(checks, "x:{try{return 1;}catch(e0 y){break x;}" + finals[i] + "}", goes);
            ends(checks, "do{try{continue;}" + finals[i] + "}while(a<1);", goes);
            ends(checks, "x:do{try{while(true)continue x;}" + finals[i] + "}while(a<1);", goes);
            ends(checks, "switch(a){default:try{break;}" + finals[i] + "}", goes);
            ends(checks, "while(true){try with r0{break;}" + finals[i] + "}", goes);
            ends(checks, "while(true){if(a<1)break;try{break;}" + finals[i] + "}", true);
        }
        ends(checks, "while(true){try with r0{break;}}", true);
        ends(checks, "while(true){try{break;}catch(e0 x){return 1;}}", true);
        ends(checks, "while(true){try{}finally{break;}}", true);
        ends(checks, "x:{try{return 1;}finally{break x;}}", true);
        ends(checks, "do{try{return 1;}finally{continue;}}while(a<1);", true);
        ends(checks, "try{while(true){break;}}finally{return 1;}", false);
        ends(checks, "while(true){try{while(true)break;}finally{return 1;}}", false);
    }

    private static void jumpsFromTwoTries(Checks checks) {
        for (int bits = 0; bits < 4; bits++) {
            boolean inner = (bits & 1) != 0;
            boolean outer = (bits & 2) != 0;
            String innerLast = "finally{" + part(inner) + "}";
            String outerLast = "finally{" + part(outer) + "}";
            boolean goes = inner && outer;
            ends(checks, "while(true){try{try{break;}" + innerLast + "}" + outerLast + "}", goes);
            ends(checks, "x:{try{try{break x;}" + innerLast + "}" + outerLast + "}", goes);
            ends(checks, "do{try{try{continue;}" + innerLast + "}" + outerLast + "}while(a<1);", goes);
            ends(checks, "while(true){try{}finally{try{break;}" + innerLast + "}}", inner);
            String between = "try{while(true){try{break;}" + innerLast + "}}" + outerLast;
            ends(checks, between, goes);
        }
    }

    /** What was known of one S is not known of the next one. */
    private static void oneBehindTheOther(Checks checks) {
        ends(checks, "while(true){break;}for(int i:1);", true);
        ends(checks, "while(true)break;do;while(a<1);", true);
        ends(checks, "while(a<1);while(true);", false);
        ends(checks, "if(a<1);else;if(a<1)return 1;else return 2;", false);
        ends(checks, "try{}finally{}try{return 1;}finally{}", false);
        ends(checks, "try{}catch(e0 x){}try{return 1;}catch(e0 x){throw x;}", false);
        ends(checks, "switch(a){default:}switch(a){default:return 1;}", false);
        ends(checks, "switch(a){default:}switch(a){case 1:return 1;}", true);
        ends(checks, "x:break x;x:return 1;", false);
        ends(checks, "while(true)break;while(true);", false);
        ends(checks, "do break;while(true);do;while(true);", false);
        ends(checks, "do continue;while(a<1);do return 1;while(a<1);", false);
        StatementRules2 x = new StatementRules2();
        Checks.put(x, "return 1;");
        x.read();
        checks.same("the end of a first text", x.program(1), 0);
        Checks.put(x, "log 1;");
        x.read();
        checks.same("the end of the next one", x.program(1), 1);
        checks.faulty(x, "return 1;log 2;", 7, 9);
        checks.sound(x, "log 1;log 2;", 2);
    }

    private static void arms(Checks checks) {
        for (String can : CAN) {
            String head = "log switch(a){case 1->2;default->{";
            checks.faulty(head + can + "}};", 7, head.length() + can.length());
        }
        for (String cannot : new String[] {"yield 1;", "throw e0 1;", "while(true);", "{yield 1;}",
            "if(a<1)yield 1;else yield 2;", "while(true){if(a<1)yield 1;}", "do yield 1;while(a<1);",
            "switch(a){default:yield 1;}", "lock(m0){yield 1;}", "try{yield 1;}catch(e0 x){throw x;}",
            "try{}finally{yield 1;}", "x:yield 1;"}) {
            ends(checks, "log switch(a){case 1->2;default->{" + cannot + "}};", true);
            ends(checks, "return switch(a){case 1->2;default->{" + cannot + "}};", false);
        }
        checks.marked("log switch(a){default->{@}};", 7);
        checks.marked("log switch(a){default->{if(a<1)yield 1;@}};", 7);
        checks.marked("log switch(a){default->{while(a<1)yield 1;@}};", 7);
        checks.marked("log switch(a){default->{for(int i:1)yield 1;@}};", 7);
        checks.marked("log switch(a){default->{switch(a){case 1:yield 1;}@}};", 7);
        checks.marked("log switch(a){default->{while(true)break;@}};", 7);
        checks.marked("log switch(a){default->{x:{break x;}@}};", 7);
        checks.marked("log switch(a){default->{yield 1;@;}};", 7);
        checks.marked("log switch(a){case 1->{throw e0 1;}default->{try{yield 1;}catch(e0 x){}@}};", 7);
        checks.marked("log switch(a){default->{log switch(b){default->{@}};yield 1;}};", 7);
    }

    /** The first of them counts, by its place. */
    private static void firstFault(Checks checks) {
        checks.marked("return 1;@{}{}", 7);
        checks.marked("return 1;@log switch(a){default->{}};", 7);
        checks.marked("log switch(a){default->{@}};return 1;;", 7);
        checks.marked("{return 1;@;}return 1;;", 7);
        checks.marked("log switch(a){case 1->{;@}default->{;}};", 7);
        checks.marked("return 1;@x:;", 7);
        checks.marked("return 1;@int x=1;log x;", 7);
        checks.marked("while(true){return 1;@x:while(true);}", 7);
        checks.marked("if(a<1)return 1;else return 2;@if(a<1);", 7);
        checks.marked("if(a<1){return 1;@;}else{return 2;;}", 7);
    }
}
