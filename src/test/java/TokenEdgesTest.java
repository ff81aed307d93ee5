/** THE TAPE and its TOKENS at their edges: every byte, every WORD, the shortest and the longest of each sort. */
public final class TokenEdgesTest {
    private static final String SIGNS = "{}()[];:,=+-*/%<>!|";
    private static final String[] LONG_SIGNS = {"<=", ">=", "==", "!=", "&&", "||", "->", "++"};
    private static final String[] WORDS = ("int var log if else while do for break continue return throw lock try "
        + "with catch finally assert switch case default yield true false null").split(" ");

    public static void main(String[] args) {
        Checks checks = new Checks("token edges");
        everyByte(checks);
        everyPairOfSigns(checks);
        splitSigns(checks);
        blanks(checks);
        numbers(checks);
        names(checks);
        words(checks);
        monitors(checks);
        resources(checks);
        kinds(checks);
        bytesThatWent(checks);
        fullTape(checks);
        checks.end();
    }

    private static void everyByte(Checks checks) {
        for (char c = 0; c < 256; c++) {
            String text = String.valueOf(c);
            if (c == ' ' || c == '\n') {
                checks.sound(text, 0);
            } else if (c == ';') {
                checks.sound(text, 1);
            } else if (c == '{' || c == 'a' || c == 'b') {
                checks.faulty(text, 2, 1);
            } else if (c >= 'c' && c <= 'z') {
                checks.faulty(text, 3, 0);
            } else {
                boolean isToken = SIGNS.indexOf(c) >= 0 || c >= '0' && c <= '9';
                checks.faulty(text, isToken ? 2 : 1, 0);
            }
        }
    }

    /** Behind a 1 of log, no sign but ; + - * / % can stand: the fault is at what was taken as one token. */
    private static void everyPairOfSigns(Checks checks) {
        String firsts = "=<>!&|:,{}()[]";
        for (char first : firsts.toCharArray()) {
            for (char second : (SIGNS + "&").toCharArray()) {
                boolean isLong = isLong("" + first + second);
                checks.faulty("log 1" + first + second, isLong || first != '&' ? 2 : 1, 5);
            }
        }
        for (char second : (SIGNS + "&").toCharArray()) {
            if (second != '(' && second != '-') {
                boolean plus = second == '+';
                boolean arrow = second == '>';
                checks.faulty("log 1+" + second, second == '&' ? 1 : 2, plus ? 5 : 6);
                checks.faulty("log 1-" + second, second == '&' ? 1 : 2, arrow ? 5 : 6);
                checks.faulty("log 1*" + second, second == '&' ? 1 : 2, 6);
            }
        }
    }

    private static boolean isLong(String pair) {
        for (String sign : LONG_SIGNS) {
            if (sign.equals(pair)) {
                return true;
            }
        }
        return false;
    }

    private static void splitSigns(Checks checks) {
        checks.sound("a ++;", 1);
        checks.marked("a @+ +;", 2);
        checks.marked("if(a< @=1);", 2);
        checks.marked("if(a> @=1);", 2);
        checks.marked("if(a@= =1);", 2);
        checks.marked("if(a@! =1);", 2);
        checks.marked("if(a<1@& &b<1);", 1);
        checks.marked("if(a<1@| |b<1);", 2);
        checks.marked("if(a<1&&@&b<1);", 1);
        checks.marked("if(a<1||@|b<1);", 2);
        checks.marked("log switch(a){default@- >1;};", 2);
        checks.marked("if(a==@=1);", 2);
        checks.marked("if(a<=@=1);", 2);
        checks.marked("log a@->b;", 2);
        checks.sound("if(a<-b);if(a>-b);if(a==-b);if(!!true);log switch(a){default->-b;};", 9);
        checks.sound("if(a<1||!true);if(![true]);", 4);
    }

    private static void blanks(Checks checks) {
        checks.sound("\n\n  log\n\n1\n;  \n", 1);
        checks.sound("log(1);", 1);
        checks.sound("return-1;", 1);
        checks.marked("log 1;@\t", 1);
        checks.marked("log 1;@\r", 1);
        checks.marked("@log1;", 3);
        checks.marked("@in t x=1;", 3);
        checks.marked("log 1 @2;", 2);
        checks.marked("int x @y=1;", 2);
    }

    private static void numbers(Checks checks) {
        for (int digits = 1; digits <= 20; digits++) {
            for (String digit : new String[] {"0", "1", "9"}) {
                String text = "log " + digit.repeat(digits) + ";";
                if (digits <= 9) {
                    checks.sound(text, 1);
                } else {
                    checks.faulty(text, 1, 4);
                }
            }
        }
        checks.runs("log 0;log 000000000;log 000000012;log 999999999;", 0, 0, "log0 log0 log12 log999999999 | ended");
        checks.marked("switch(a){case @1234567890:}", 1);
        checks.marked("log 1 @1234567890;", 1);
        checks.marked("log 999999999@a;", 2);
        checks.marked("log 1@x1234567;", 2);
    }

    private static void names(Checks checks) {
        for (int bytes = 1; bytes <= 20; bytes++) {
            String name = "xyzuvwst9876543210123".substring(0, bytes);
            if (bytes <= 8) {
                checks.sound("int " + name + "=1;", 1);
                checks.sound(name + ":;", 2);
            } else {
                checks.faulty("int " + name + "=1;", 1, 4);
                checks.faulty(name + ":;", 1, 0);
            }
        }
        checks.runs("int abcdefgh=1;int abcdefgi=2;int bbcdefgh=3;int abcdefg=4;log abcdefgh;log abcdefgi;"
            + "log bbcdefgh;log abcdefg;", 0, 0, "log1 log2 log3 log4 | ended");
        checks.runs("int x=1;int xx=2;int x0=3;int x00=4;log x;log xx;log x0;log x00;", 0, 0,
            "log1 log2 log3 log4 | ended");
        checks.marked("int x=1;log @xx;", 3);
        checks.marked("log @abcdefghi0;", 1);
    }

    private static void words(Checks checks) {
        checks.same("how many words", WORDS.length, 25);
        for (String word : WORDS) {
            checks.faulty("int " + word + "=1;", 2, 4);
            checks.faulty("while(true)break " + word + ";", 2, 17);
            checks.sound("int " + word.substring(1) + "0=1;", 1);
            checks.sound("int " + word.substring(0, word.length() - 1) + "=1;", 1);
            for (String row : new String[] {word + "1", word + "z"}) {
                if (row.length() <= 8) {
                    checks.sound("int " + row + "=1;", 1);
                } else {
                    checks.faulty("int " + row + "=1;", 1, 4);
                }
            }
        }
    }

    private static void monitors(Checks checks) {
        for (int m = 0; m < 8; m++) {
            checks.runs("lock(m" + m + "){}", 0, 0, "take" + m + " drop" + m + " | ended");
            checks.faulty("int m" + m + "=1;", 2, 4);
            checks.faulty("log m" + m + ";", 2, 4);
        }
        for (String name : "m8 m9 m10 m11 m17 m70 m00 m07 m mm m0a n0 am0".split(" ")) {
            checks.sound("int " + name + "=1;", 1);
            checks.faulty("lock(" + name + "){}", 2, 5);
        }
        checks.marked("lock(@r0){}", 2);
        checks.marked("lock(@e0){}", 2);
    }

    private static void resources(Checks checks) {
        for (int r = 0; r < 8; r++) {
            checks.runs("try with r" + r + "{}", 0, 0, "open" + r + " close" + r + " | ended");
            checks.faulty("int r" + r + "=1;", 2, 4);
        }
        for (String name : "r8 r9 r10 r11 r17 r70 r00 r07 r rr r0a s0 ar0".split(" ")) {
            checks.sound("int " + name + "=1;", 1);
            checks.faulty("try with " + name + "{}", 2, 9);
        }
        checks.marked("try with @m0{}", 2);
        checks.marked("try with r0,@null{}", 2);
    }

    private static void kinds(Checks checks) {
        for (int n = 0; n < 12; n++) {
            StatementRules2 x = withAllKinds();
            checks.runs(x, "throw e" + n + " 1;", 0, 0, "| threw e" + n + " 1");
            checks.runs(x, "try{throw e" + n + " 7;}catch(e" + n + " x){log x;}", 0, 0, "log7 | ended");
            checks.faulty(x, "int e" + n + "=1;", 2, 4);
        }
        String others = "e12 e13 e19 e20 e21 e31 e99 e00 e01 e09 e010 e011 e100 e110 e111 e e1a ea1 ee1 f1";
        for (String name : others.split(" ")) {
            StatementRules2 x = withAllKinds();
            checks.sound(x, "int " + name + "=1;", 1);
            checks.faulty(x, "throw " + name + " 1;", 3, 6);
            checks.faulty(x, "try{}catch(" + name + " x){}", 2, 11);
        }
    }

    private static StatementRules2 withAllKinds() {
        StatementRules2 x = new StatementRules2();
        for (int n = 4; n < 12; n++) {
            x.kind(0);
        }
        return x;
    }

    /** Bytes that cut() took away, or that an earlier text had, stand behind the last byte: they are no part. */
    private static void bytesThatWent(Checks checks) {
        String[][] cuts = {{"log 1", "23456;", "2"}, {"log a", "b;", "2"}, {"a=", "=1;", "2"}, {"log ", "1;", "2"},
            {"log 1", ";", "2"}, {"{", "}", "2"}, {"a+", "+;", "2"}};
        for (String[] cut : cuts) {
            StatementRules2 x = new StatementRules2();
            Checks.put(x, cut[0] + cut[1]);
            x.cut(cut[0].length());
            int place = cut[0].equals("a+") ? 1 : cut[0].length();
            checks.same("read() of '" + cut[0] + "'", x.read(), -10 - place);
            checks.same("fault() of '" + cut[0] + "'", x.fault(), Integer.parseInt(cut[2]));
        }
        StatementRules2 x = new StatementRules2();
        Checks.put(x, "log 123;log 456;log 7");
        x.cut(7);
        checks.same("behind a cut", x.feed(0x3b202020, 0x20202020, 0x20202020, 0x20202020, 0x20202020), 27);
        checks.same("read() of 'log 123;'", x.read(), 1);
        x.run(0, 0);
        checks.same("what was logged", x.trace(0, 1), 123);
    }

    private static void fullTape(Checks checks) {
        checks.sound(" ".repeat(900), 0);
        checks.sound("\n".repeat(899) + ";", 1);
        checks.sound(" ".repeat(894) + "log 1;", 1);
        checks.faulty("x".repeat(900), 1, 0);
        checks.faulty("1".repeat(900), 1, 0);
        checks.faulty(";".repeat(899) + "#", 1, 899);
        checks.faulty(";".repeat(899) + "<", 2, 899);
        checks.faulty(";".repeat(899) + "{", 2, 900);
        checks.faulty(";".repeat(899) + "x", 3, 899);
        checks.faulty("log 1" + " ".repeat(895), 2, 900);
        checks.faulty(";".repeat(891) + "return 10", 2, 900);
    }
}
