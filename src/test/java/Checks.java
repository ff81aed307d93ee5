/** What the tests have in common: texts fed to an object, and answers compared with those that are due. */
final class Checks {
    private final String title;
    private int wrong;

    Checks(String title) {
        this.title = title;
    }

    void same(String what, long got, long due) {
        if (got != due) {
            wrong++;
            System.out.println(title + ": " + what + " answered " + got + ", due is " + due);
        }
    }

    void sameText(String what, String got, String due) {
        if (!got.equals(due)) {
            wrong++;
            System.out.println(title + ": " + what + " answered " + got + ", due is " + due);
        }
    }

    /** Ends the test's program with 1 if an answer was wrong. */
    void end() {
        if (wrong > 0) {
            System.exit(1);
        }
    }

    /** Puts the text, whose length need not be a multiple of 20, on an empty tape. */
    static void put(StatementRules2 x, String text) {
        byte[] bytes = new byte[(text.length() + 19) / 20 * 20];
        for (int i = 0; i < text.length(); i++) {
            bytes[i] = (byte) text.charAt(i);
        }
        for (int i = 0; i < bytes.length; i += 20) {
            x.feed(number(bytes, i), number(bytes, i + 4), number(bytes, i + 8), number(bytes, i + 12),
                number(bytes, i + 16));
        }
        x.cut(text.length());
    }

    private static int number(byte[] bytes, int at) {
        return (bytes[at] & 255) << 24 | (bytes[at + 1] & 255) << 16 | (bytes[at + 2] & 255) << 8
            | bytes[at + 3] & 255;
    }

    /** An object that has read the text. */
    static StatementRules2 reading(String text) {
        StatementRules2 x = new StatementRules2();
        put(x, text);
        x.read();
        return x;
    }

    /** The text has this fault at this place, on an object with the four first KINDS. */
    void faulty(String text, int fault, int place) {
        faulty(new StatementRules2(), text, fault, place);
    }

    void faulty(StatementRules2 x, String text, int fault, int place) {
        put(x, text);
        same("read() of '" + text + "'", x.read(), -10 - place);
        same("fault() of '" + text + "'", x.fault(), fault);
        same("program(0) of '" + text + "'", x.program(0), StatementRules2.NO);
    }

    /** The text has this fault where the mark @ stands, which is no part of it. */
    void marked(String text, int fault) {
        marked(new StatementRules2(), text, fault);
    }

    void marked(StatementRules2 x, String text, int fault) {
        int place = text.indexOf('@');
        faulty(x, text.substring(0, place) + text.substring(place + 1), fault, place);
    }

    /** The text has no fault, and so many S. */
    void sound(String text, int statements) {
        sound(new StatementRules2(), text, statements);
    }

    void sound(StatementRules2 x, String text, int statements) {
        put(x, text);
        same("read() of '" + text + "'", x.read(), statements);
        same("fault() of '" + text + "'", x.fault(), 0);
    }

    /** The text runs to this end: see told(). */
    void runs(String text, int a, int b, String due) {
        runs(new StatementRules2(), text, a, b, due);
    }

    void runs(StatementRules2 x, String text, int a, int b, String due) {
        put(x, text);
        int answer = x.read();
        if (answer < 0) {
            same("read() of '" + text + "'", answer, 0);
            return;
        }
        int outcome = x.run(a, b);
        sameText("'" + text + "' with " + a + ", " + b, told(x, outcome), due);
    }

    /** Like "log1 open0 close0 take3 drop3 | ended", "| returned 7", "| threw e4 1 [e5 0]", "| spent". */
    static String told(StatementRules2 x, int outcome) {
        StringBuilder text = new StringBuilder();
        String[] sorts = {"log", "open", "close", "take", "drop"};
        for (int i = 0; i < x.ran(1); i++) {
            text.append(sorts[x.trace(i, 0)]).append(x.trace(i, 1)).append(' ');
        }
        String[] ends = {"| ended", "| returned " + x.ran(2), "| threw e" + x.ran(3) + " " + x.ran(4), "| spent"};
        text.append(ends[outcome]);
        for (int i = 0; i < x.ran(5); i++) {
            text.append(" [e").append(x.suppressed(i, 0)).append(' ').append(x.suppressed(i, 1)).append(']');
        }
        return text.toString();
    }

    static String repeat(String part, int times) {
        return part.repeat(times);
    }
}
