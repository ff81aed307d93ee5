import java.util.Arrays;
import java.util.List;

/** The FAULTS 1 to 6 at their edges: the first token with one, of one the least number, and the 21st that is open. */
public final class FaultEdgesTest {
    /** Sound texts with a blank between any two tokens; no text of fewer of these tokens is sound. */
    private static final String[] TEXTS = {
        "{ int x = 1 + 2 ; var y = - x * ( a - b ) ; x = y / 2 % 3 ; x ++ ; log x ; ; { } return x ; }",
        "{ if ( a < 1 && b <= 2 || ! a > 3 ) log 1 ; else if ( true ) log 2 ; else { log 3 ; } }",
        "{ while ( a >= 1 ) { if ( a == 2 ) break ; if ( b != 3 ) continue ; a = 0 ; } }",
        "{ do a ++ ; while ( a < 3 || false ) ; }",
        "{ for ( int i = 0 ; i < 3 ; i ++ ) log i ; for ( a = 1 ; ; a = a + 1 ) break ; }",
        "{ for ( int i : 1 , a , - b ) log i ; for ( int i : null ) ; }",
        "{ while ( true ) { l1 : l2 : for ( ; ; ) { if ( a < 1 ) break l1 ; continue l2 ; } } }",
        "{ lock ( m0 ) { log 1 ; } lock ( null ) { } }",
        "{ switch ( a ) { case 1 : log 1 ; case - 2 : case 3 : break ; default : ; } }",
        "{ log switch ( a ) { case 1 , - 2 -> 3 ; case 4 -> { log 5 ; yield 6 ; } default -> a ; } + 1 ; }",
        "{ try { throw e1 5 ; } catch ( e1 | e2 x ) { throw x ; } catch ( e0 y ) { } finally { log 1 ; } }",
        "{ try with r0 , r1 { log 1 ; } try with r2 { } catch ( e0 x ) { log x ; } }",
        "{ assert a < 1 ; assert true : a ; }"};

    public static void main(String[] args) {
        Checks checks = new Checks("fault edges");
        everyCut(checks);
        everyTokenThatIsNone(checks);
        everyTokenThatCannotStand(checks);
        theFirstToken(checks);
        theLeastNumber(checks);
        theEnd(checks);
        labelsAndNames(checks);
        caughtNames(checks);
        jumps(checks);
        kinds(checks);
        checks.end();
    }

    private static String join(List<String> tokens) {
        return String.join(" ", tokens);
    }

    /** A NAME is a LABEL by the : behind it. */
    private static boolean isLabel(String[] tokens, int i) {
        boolean begins = i > 0 && Arrays.asList("{", "}", ";", ":", ")").contains(tokens[i - 1]);
        return begins && i + 1 < tokens.length && tokens[i + 1].equals(":") && tokens[i].startsWith("l");
    }

    private static int placeOf(String[] tokens, int i) {
        int place = 0;
        for (int k = 0; k < i; k++) {
            place += tokens[k].length() + 1;
        }
        return place;
    }

    /** A text that is too short has 2 at its end. */
    private static void everyCut(Checks checks) {
        for (String text : TEXTS) {
            String[] tokens = text.split(" ");
            checks.same("fault() of " + text, Checks.reading(text).fault(), 0);
            for (int n = 1; n < tokens.length; n++) {
                String part = join(Arrays.asList(tokens).subList(0, n));
                if (isLabel(tokens, n - 1)) {
                    checks.faulty(part, 3, placeOf(tokens, n - 1));
                } else {
                    checks.faulty(part, 2, part.length());
                    checks.faulty(part + " \n ", 2, part.length() + 3);
                }
            }
        }
    }

    private static void everyTokenThatIsNone(Checks checks) {
        everyTokenAs(checks, "#", 1);
        everyTokenAs(checks, "&", 1);
        everyTokenAs(checks, "1234567890", 1);
        everyTokenAs(checks, "abcdefghi", 1);
    }

    private static void everyTokenThatCannotStand(Checks checks) {
        everyTokenAs(checks, "]", 2);
        everyTokenAs(checks, "r0 =", 2);
    }

    private static void everyTokenAs(Checks checks, String other, int fault) {
        for (String text : TEXTS) {
            String[] tokens = text.split(" ");
            for (int i = 0; i < tokens.length; i++) {
                String[] changed = tokens.clone();
                changed[i] = other;
                boolean resource = other.startsWith("r0") && tokens[i].startsWith("r") && !tokens[i].equals("return");
                if (i > 0 && isLabel(tokens, i - 1)) {
                    checks.faulty(String.join(" ", changed), 3, placeOf(tokens, i - 1));
                } else if (!resource) {
                    checks.faulty(String.join(" ", changed), fault, placeOf(tokens, i));
                }
            }
        }
    }

    private static void theFirstToken(Checks checks) {
        checks.marked("log @) # ;", 2);
        checks.marked("log @# ) ;", 1);
        checks.marked("log @z; #", 3);
        checks.marked("int @a=z;#", 4);
        checks.marked("@break; log z; #", 5);
        checks.marked("try{}catch(e0 x){}catch(@e1 y){} log z; #", 6);
        checks.marked("return 1;log 1;log @z;", 3);
        checks.marked("return 1;log 1@", 2);
        checks.marked("return 1;log switch(a){default->{}};{@", 2);
        checks.marked("return 1;@log 1;", 7);
        checks.marked("log switch(a){default->{@}};return 1;log 2;", 7);
        checks.marked("{return 1;@log 1;}log switch(a){default->{}};", 7);
    }

    /** Of one token the least number counts. */
    private static void theLeastNumber(Checks checks) {
        String deep = "{".repeat(20);
        checks.faulty(deep + "log 1{", 2, 25);
        checks.faulty(deep + "log 1(", 2, 25);
        checks.faulty(deep + "log 1[", 2, 25);
        checks.faulty(deep + "log !", 2, 24);
        checks.faulty(deep + "-1;", 2, 20);
        checks.faulty(deep + "log #", 1, 24);
        checks.marked("if @z<1;", 2);
        checks.marked("lock(@z){}", 2);
        checks.marked("switch(a){case @z:}", 2);
        checks.marked("try with @z{}", 2);
        checks.marked("log 1 @z;", 2);
        checks.marked("log @break;", 2);
        checks.marked("log 1 @yield;", 2);
        checks.marked("int @return=1;", 2);
        checks.marked("log @e4;", 2);
        checks.marked("int @e9=1;", 2);
        checks.marked("log 1 @1234567890;", 1);
        checks.marked("int @abcdefghi=1;", 1);
        checks.marked("x:{while(true)continue @y;}", 3);
        checks.marked("try{}catch(e0 x){}catch(@e4 y){}", 3);
        checks.marked("switch(a){default:@default}", 4);
        checks.marked("switch(a){case 1:case @1}", 4);
    }

    /** The end has the place behind the last byte, blanks too. */
    private static void theEnd(Checks checks) {
        checks.marked("log 1@", 2);
        checks.marked("log 1   @", 2);
        checks.marked("{\n@", 2);
        checks.marked("x:@", 2);
        checks.marked("if(a<1)\n\n@", 2);
        checks.marked("while(true)break@", 2);
        checks.marked("a@", 2);
        checks.marked("throw e0@", 2);
        checks.marked("try{}catch(e0@", 2);
        checks.marked("@x", 3);
        checks.marked("@break", 5);
        checks.marked("@continue ", 5);
        checks.marked("@yield", 5);
    }

    private static void labelsAndNames(Checks checks) {
        checks.marked("@x", 3);
        checks.marked("@x ;", 3);
        checks.marked("@x (", 3);
        checks.marked("@x #", 3);
        checks.marked("a@;", 2);
        checks.marked("a@(", 2);
        checks.marked("a@#", 1);
        checks.marked("x:a@;", 2);
        checks.marked("x:@y;", 3);
        checks.marked("for(@x:1);", 3);
        checks.marked("for(;;@x);", 3);
        checks.marked("log 1;@x=2;", 3);
        checks.marked("a=@a1;", 3);
        checks.marked("throw @x", 3);
        checks.marked("throw @a", 3);
        checks.marked("int x=1;throw @x;", 3);
        checks.marked("for(int x:1)throw @x;", 3);
        checks.marked("try{}catch(e1 x){}catch(e2 y){throw @x;}", 3);
        checks.marked("try{}catch(e1 x){throw x @1;}", 2);
        checks.marked("throw @x 1;", 3);
        checks.marked("throw e0@;", 2);
        checks.marked("throw @(e0) 1;", 2);
    }

    /** A NAME of CATCHES gets nothing; what else may be done with it is fine. */
    private static void caughtNames(Checks checks) {
        String[] gifts = {"@x=1;", "@x++;", "{@x=1;}", "if(a<1)@x++;", "y:@x=1;", "for(@x=1;;);", "for(;;@x++);",
            "for(;;@x=1);", "log switch(a){default->{@x++;yield 1;}};", "lock(m0){@x=2;}", "try{}finally{@x++;}",
            "try{}catch(e0 y){@x=y;}"};
        for (String gift : gifts) {
            checks.marked("try{}catch(e0 x){" + gift + "}", 3);
            StatementRules2 x = Checks.reading("int x=1;{" + gift.replace("@", "") + "}");
            checks.same("fault() of " + gift + " of an int", x.fault(), 0);
        }
        checks.marked("try{}catch(e0 x){int @x=1;}", 4);
        checks.marked("try{}catch(e0 x){x@;}", 2);
        checks.sound("try{}catch(e0 x){x:log x+1;a=x;for(int i:x,x*2);if(x<1)throw x;}", 8);
        checks.sound("try{}catch(e0 x){}int x=1;x++;x=2;", 4);
    }

    private static void jumps(Checks checks) {
        String[] behind = {"", ";", " 1;", " #", " ++", " m0;", " r0;", " e0;", " if;", " (x);", " 1234567890"};
        for (String rest : behind) {
            checks.faulty("break" + rest, 5, 0);
            checks.faulty("continue" + rest, 5, 0);
            checks.faulty("{x:{break" + rest, 5, 4);
            checks.faulty("switch(a){case 1:continue" + rest, 5, 17);
            checks.faulty("yield" + rest, 5, 0);
            checks.faulty("log switch(a){default->{return" + rest, 5, 24);
            checks.faulty("while(true)log switch(a){default->{break" + rest, 5, 35);
        }
        checks.marked("break @x;", 3);
        checks.marked("continue @x", 3);
        checks.marked("while(true)break @1;", 2);
        checks.marked("while(true)break@", 2);
        checks.marked("while(true)break @#", 1);
        checks.marked("switch(a){case 1:break @1;}", 2);
        checks.marked("x:continue @x;", 5);
        checks.marked("x:{continue @x", 5);
        checks.marked("x:switch(a){case 1:continue @x;}", 5);
        checks.marked("while(true)x:{continue @x;}", 5);
        checks.marked("x:{while(true)continue @x;}", 5);
        checks.marked("x:if(a<1)while(true)continue @x;", 5);
        checks.marked("x:lock(m0){while(true)continue @x;}", 5);
        checks.sound("x:y:z:while(a<1){if(a<0)continue x;if(a<0)continue y;continue z;}", 10);
        checks.sound("x:do continue x;while(a<1);y:for(;;)continue y;", 6);
        checks.sound("x:for(int i:1)continue x;", 3);
        checks.sound("x:if(a<1)break x;", 3);
        checks.sound("log switch(a){default->{lock(m0){try{yield 1;}finally{}}}};", 4);
        checks.sound("while(a<1)switch(b){case 1:continue;case 2:break;}", 4);
    }

    /** A KIND that is UNDER one caught ahead of it in this try, in the same CATCH too; and those not told. */
    private static void kinds(Checks checks) {
        int[] above = {-1, 0, 0, 0, 1, 4, 0};
        for (int first = 0; first < 7; first++) {
            StatementRules2 x = withKinds();
            for (int second = 0; second < 7; second++) {
                boolean under = false;
                for (int up = second; up >= 0; up = above[up]) {
                    under = under || up == first;
                }
                both(checks, x, "try{}catch(e" + first + " x){}catch(", second, under);
                both(checks, x, "try{}catch(e" + first + "|", second, under);
            }
        }
        StatementRules2 x = withKinds();
        checks.marked(x, "try{}catch(@e7 x){}", 3);
        checks.marked(x, "throw @e11 1;", 3);
        checks.sound(x, "try{try{}catch(e0 x){}}catch(e5 x){try{}catch(e0 y){}}catch(e4 x){}", 3);
        checks.marked(x, "try{}catch(e5 x){}catch(e6|e4 x){}catch(e2|@e5 x){}", 6);
    }

    /** 4 under 1, 5 under 4, 6 under 0. */
    private static StatementRules2 withKinds() {
        StatementRules2 x = new StatementRules2();
        x.kind(1);
        x.kind(4);
        x.kind(0);
        return x;
    }

    private static void both(Checks checks, StatementRules2 x, String before, int kind, boolean under) {
        String text = before + "e" + kind + " x){}";
        if (under) {
            checks.faulty(x, text, 6, before.length());
        } else {
            checks.sound(x, text, 1);
        }
    }
}
