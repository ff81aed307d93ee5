import java.util.ArrayList;
import java.util.Arrays;
import java.util.HashMap;
import java.util.HashSet;
import java.util.List;
import java.util.Map;
import java.util.Set;

/**
 * FAULTS 1 and 2 against the document's grammar, written down once more as rules: in each text of TEXTS every token
 * is left out, replaced by every sort of token, and has one put ahead of it.
 */
public final class GrammarTest {
    private static final String[] RULES = {
        "PROGRAM: SS END",
        "SS: | S SS",
        "BLOCK: { SS }",
        "S: BODY | int NAME = EXPR ; | var NAME = EXPR ;",
        "BODY: BLOCK | ; | NAME = EXPR ; | NAME ++ ; | log EXPR ; | NAME : BODY | return EXPR ; | break ;"
            + " | break NAME ; | continue ; | continue NAME ; | yield EXPR ; | throw KIND EXPR ; | throw NAME ;"
            + " | assert COND ; | assert COND : EXPR ; | if ( COND ) BODY | if ( COND ) BODY else BODY"
            + " | while ( COND ) BODY | do BODY while ( COND ) ; | for ( BEFORE ; TEST ; AFTER ) BODY"
            + " | for ( int NAME : ROW ) BODY | lock ( MONITOR ) BLOCK | lock ( null ) BLOCK"
            + " | switch ( EXPR ) { GROUPS } | try BLOCK CATCHES | try BLOCK MAYBE finally BLOCK"
            + " | try with RESOURCES BLOCK MAYBE | try with RESOURCES BLOCK MAYBE finally BLOCK",
        "BEFORE: | int NAME = EXPR | NAME = EXPR",
        "TEST: | COND",
        "AFTER: | NAME = EXPR | NAME ++",
        "ROW: null | EXPRS",
        "EXPRS: EXPR | EXPRS , EXPR",
        "GROUPS: | GROUPS case VALUE : SS | GROUPS default : SS",
        "VALUE: NUMBER | - NUMBER",
        "RESOURCES: RESOURCE | RESOURCES , RESOURCE",
        "MAYBE: | CATCHES",
        "CATCHES: CATCH | CATCHES CATCH",
        "CATCH: catch ( KINDS NAME ) BLOCK",
        "KINDS: KIND | KINDS OR KIND",
        "EXPR: TERM | EXPR + TERM | EXPR - TERM",
        "TERM: FACTOR | TERM * FACTOR | TERM / FACTOR | TERM % FACTOR",
        "FACTOR: NUMBER | NAME | - FACTOR | ( EXPR ) | switch ( EXPR ) { CASES default -> RESULT ARMS }",
        "CASES: | CASES case VALUES -> RESULT",
        "ARMS: | ARMS case VALUES -> RESULT | ARMS default -> RESULT",
        "VALUES: VALUE | VALUES , VALUE",
        "RESULT: EXPR ; | BLOCK",
        "COND: ANDS | COND EITHER ANDS",
        "ANDS: ONE | ANDS && ONE",
        "ONE: ! ONE | true | false | [ COND ] | EXPR < EXPR | EXPR <= EXPR | EXPR > EXPR | EXPR >= EXPR"
            + " | EXPR == EXPR | EXPR != EXPR",
    };

    private static final String[] TEXTS = {
        "",
        "{ ; { log a ; } }",
        "int x = a + 2 * - b ; var y = ( x ) % 3 ; x = y - 1 ; y ++ ;",
        "x : y : while ( a < 1 ) { if ( a == 2 ) break x ; continue y ; }",
        "if ( a < 1 ) ; if ( ! [ a >= b || true ] && false ) log 1 ; else if ( a != 1 ) return 2 ; else ;",
        "do a ++ ; while ( a <= 3 ) ; do { break ; } while ( true ) ;",
        "for ( ; ; ) { break ; }",
        "for ( int i = 0 ; i < 3 ; i ++ ) continue ; for ( a = 1 ; a > 2 ; a = a - 1 ) ;",
        "for ( int i : 1 , a , - 2 ) log i ; for ( int k : null ) ;",
        "lock ( m3 ) { lock ( null ) { } }",
        "switch ( a ) { case 1 : case - 2 : log 1 ; break ; default : int z = 1 ; }",
        "try { throw e1 5 ; } catch ( e1 | e2 x ) { throw x ; } catch ( e0 y ) { } finally { ; }",
        "try with r0 , r1 { } try with r7 { } catch ( e3 x ) { log x ; } try { } finally { }",
        "assert a < 1 ; assert true : b ;",
        "log switch ( a ) { case 1 , - 2 -> 3 ; case 4 -> { yield 5 ; } default -> a ; case 6 -> 7 ; } * 2 ;",
        "while ( switch ( a ) { default -> { int q = 1 ; yield q ; } } > 2 ) ;",
    };

    private static final String[] SORTS = {
        "int", "var", "log", "if", "else", "while", "do", "for", "break", "continue", "return", "throw", "lock", "try",
        "with", "catch", "finally", "assert", "switch", "case", "default", "yield", "true", "false", "null", "{", "}",
        "(", ")", "[", "]", ";", ":", ",", "=", "+", "-", "*", "/", "%", "<", "<=", ">", ">=", "==", "!=", "!", "&&",
        "||", "->", "++", "|", "a", "x", "m0", "r0", "e1", "7", "#", "&", "1234567890", "abcdefghi", "\t", "\u00e4",
    };

    private static final Map<String, List<Rule>> GRAMMAR = grammar();
    private static final Map<String, String> KNOWN_SORTS = new HashMap<>();

    /** What a part may consist of. */
    private record Rule(String part, String[] row) {
    }

    /** A rule, how much of it has been seen, and at which token it began. */
    private record Item(Rule rule, int seen, int from) {
        boolean isWhole() {
            return seen == rule.row().length;
        }

        String next() {
            return rule.row()[seen];
        }

        Item further() {
            return new Item(rule, seen + 1, from);
        }
    }

    public static void main(String[] args) {
        Checks checks = new Checks("grammar");
        for (String text : TEXTS) {
            String[] tokens = text.isEmpty() ? new String[0] : text.split(" ");
            checks.same("the grammar itself on '" + text + "'", firstWrong(tokens, tokens.length), -1);
            compare(checks, tokens);
            changed(checks, tokens);
        }
        checks.end();
    }

    private static void changed(Checks checks, String[] tokens) {
        for (int i = 0; i <= tokens.length; i++) {
            compare(checks, Arrays.copyOf(tokens, i));
            if (i < tokens.length) {
                compare(checks, joined(tokens, i, new String[0], i + 1));
            }
            for (String sort : SORTS) {
                compare(checks, joined(tokens, i, new String[] {sort}, i));
                if (i < tokens.length) {
                    compare(checks, joined(tokens, i, new String[] {sort}, i + 1));
                }
            }
        }
    }

    private static String[] joined(String[] tokens, int keep, String[] middle, int from) {
        List<String> all = new ArrayList<>(Arrays.asList(tokens).subList(0, keep));
        all.addAll(Arrays.asList(middle));
        all.addAll(Arrays.asList(tokens).subList(from, tokens.length));
        return all.toArray(new String[0]);
    }

    /** Up to a fault of another number the tokens must be right; else the first wrong one is the fault's. */
    private static void compare(Checks checks, String[] tokens) {
        String text = String.join(" ", tokens);
        StatementRules2 x = new StatementRules2();
        Checks.put(x, text);
        int answer = x.read();
        int fault = x.fault();
        if (fault == 1 || fault == 2) {
            int wrong = firstWrong(tokens, tokens.length);
            checks.same("read() of '" + text + "'", answer, wrong < 0 ? wrong : -10 - placeOf(tokens, wrong));
            boolean isNone = wrong >= 0 && wrong < tokens.length && sortOf(tokens[wrong]).equals("NONE");
            checks.same("fault() of '" + text + "'", fault, isNone ? 1 : 2);
        } else {
            int last = fault == 0 || fault == 7 ? tokens.length : indexOf(tokens, -10 - answer);
            checks.same("wrong tokens of '" + text + "' ahead of " + fault, firstWrong(tokens, last), -1);
        }
    }

    private static int placeOf(String[] tokens, int index) {
        int place = 0;
        for (int i = 0; i < index; i++) {
            place += tokens[i].length() + 1;
        }
        // The end is behind the last byte: no blank follows the last token.
        return index == tokens.length && index > 0 ? place - 1 : place;
    }

    private static int indexOf(String[] tokens, int place) {
        int index = 0;
        while (index < tokens.length && placeOf(tokens, index) < place) {
            index++;
        }
        return index;
    }

    /** The first of the tokens up to last, the end behind them being one, that no program has there; -1: none. */
    private static int firstWrong(String[] tokens, int last) {
        List<Map<String, List<Item>>> waiting = new ArrayList<>();
        Set<Item> items = new HashSet<>();
        for (Rule rule : GRAMMAR.get("PROGRAM")) {
            items.add(new Item(rule, 0, 0));
        }
        for (int i = 0; i <= last; i++) {
            Set<Item> further = step(items, waiting, i < tokens.length ? sortOf(tokens[i]) : "END");
            if (further.isEmpty()) {
                return i;
            }
            items = further;
        }
        return -1;
    }

    /** Earley's way: all that may stand here, and of that what the token goes on with. */
    private static Set<Item> step(Set<Item> items, List<Map<String, List<Item>>> waiting, String token) {
        int here = waiting.size();
        Map<String, List<Item>> asked = new HashMap<>();
        waiting.add(asked);
        Set<String> empty = new HashSet<>();
        Set<Item> further = new HashSet<>();
        List<Item> open = new ArrayList<>(items);
        Set<Item> known = new HashSet<>(items);
        for (int i = 0; i < open.size(); i++) {
            Item item = open.get(i);
            List<Item> more = new ArrayList<>();
            if (item.isWhole()) {
                String part = item.rule().part();
                if (item.from() == here) {
                    empty.add(part);
                }
                for (Item asker : waiting.get(item.from()).getOrDefault(part, List.of())) {
                    more.add(asker.further());
                }
            } else if (GRAMMAR.containsKey(item.next())) {
                asked.computeIfAbsent(item.next(), part -> new ArrayList<>()).add(item);
                for (Rule rule : GRAMMAR.get(item.next())) {
                    more.add(new Item(rule, 0, here));
                }
                if (empty.contains(item.next())) {
                    more.add(item.further());
                }
            } else if (item.next().equals(token)) {
                further.add(item.further());
            }
            for (Item one : more) {
                if (known.add(one)) {
                    open.add(one);
                }
            }
        }
        return further;
    }

    private static String sortOf(String token) {
        return KNOWN_SORTS.computeIfAbsent(token, GrammarTest::findSort);
    }

    private static String findSort(String token) {
        if (token.matches("[0-9]{1,9}")) {
            return "NUMBER";
        }
        if (token.matches("m[0-7]")) {
            return "MONITOR";
        }
        if (token.matches("r[0-7]")) {
            return "RESOURCE";
        }
        if (token.matches("e([0-9]|10|11)")) {
            return "KIND";
        }
        if (token.equals("|")) {
            return "OR";
        }
        if (token.equals("||")) {
            return "EITHER";
        }
        int sort = Arrays.asList(SORTS).indexOf(token);
        int firstName = Arrays.asList(SORTS).indexOf("a");
        if (sort >= 0 && sort < firstName) {
            return token;
        }
        return token.matches("[a-z][a-z0-9]{0,7}") ? "NAME" : "NONE";
    }

    private static Map<String, List<Rule>> grammar() {
        Map<String, List<Rule>> all = new HashMap<>();
        for (String line : RULES) {
            int colon = line.indexOf(':');
            String part = line.substring(0, colon);
            List<Rule> rules = new ArrayList<>();
            for (String row : line.substring(colon + 1).split("\\|(?= |$)", -1)) {
                String trimmed = row.trim();
                rules.add(new Rule(part, trimmed.isEmpty() ? new String[0] : trimmed.split(" ")));
            }
            all.put(part, rules);
        }
        return all;
    }
}
