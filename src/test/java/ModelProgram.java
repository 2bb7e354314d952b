import java.util.ArrayList;
import java.util.Arrays;
import java.util.HashMap;
import java.util.HashSet;
import java.util.LinkedHashSet;
import java.util.List;
import java.util.Map;
import java.util.Set;
import java.util.regex.Matcher;
import java.util.regex.Pattern;

/**
 * The model's programs (chapter 2 of the terms). The class parses by methods that call one another; here the
 * written grammar itself is followed, with all stacks of symbols that the tokens so far leave possible.
 */
final class ModelProgram {
    private static final Pattern BLANKS = Pattern.compile("[ \n]*");
    private static final Pattern TOKEN = Pattern.compile("[a-z][a-z0-9]*|[0-9]+|<=|>=|[;()\\[\\],+\\-*/<>=]");
    private static final Set<String> KEYWORDS =
            Set.of("let", "when", "bid", "pass", "and", "or", "not", "min", "max");
    static final List<String> GIVEN = List.of("micron", "length", "yield", "weight", "clean", "bales", "class",
            "index", "need", "purse", "bought", "rivals", "turn");

    // A sign with a ! behind it makes the depth 1 greater, and ^ makes it 1 less.
    private static final Map<String, List<List<String>>> GRAMMAR = grammar(
            "program = | part program",
            "part = let name = sum ; | bid sum ; | pass ; | when test bid sum ; | when test pass ;",
            "test = both ors", "ors = | or both ors",
            "both = single ands", "ands = | and single ands",
            "single = not! single ^ | [! test ] ^ | sum < sum | sum > sum | sum = sum | sum <= sum | sum >= sum",
            "sum = product adds", "adds = | + product adds | - product adds",
            "product = value times", "times = | * value times | / value times",
            "value = number | name | -! value ^ | (! sum ) ^ | min (! sum , sum ) ^ | max (! sum , sum ) ^");

    private record Token(String kind, String text, int place) {
    }

    private record Stack(int depth, List<String> symbols) {
        Stack with(int newDepth, List<String> ahead) {
            List<String> joined = new ArrayList<>(ahead);
            joined.addAll(symbols.subList(1, symbols.size()));
            return new Stack(newDepth, joined);
        }
    }

    private final List<Token> tokens = new ArrayList<>();
    private final int end;
    int error;
    int errorPlace = -1;
    private int next;
    private Map<String, Integer> names;

    ModelProgram(String tape) {
        end = tape.length();
        int place = behind(BLANKS, tape, 0);
        while (place < tape.length()) {
            int behind = behind(TOKEN, tape, place);
            tokens.add(new Token(kindOf(tape.substring(place, behind)), tape.substring(place, behind), place));
            place = behind(BLANKS, tape, Math.max(behind, place + 1));
        }
        findWrongToken();
        if (error == 0) {
            findWrongName();
        }
    }

    private static Map<String, List<List<String>>> grammar(String... rules) {
        Map<String, List<List<String>>> grammar = new HashMap<>();
        for (String rule : rules) {
            int equals = rule.indexOf(" = ");
            List<List<String>> ways = new ArrayList<>();
            for (String way : rule.substring(equals + 3).split("\\|", -1)) {
                ways.add(way.isBlank() ? List.of() : Arrays.asList(way.trim().split(" ")));
            }
            grammar.put(rule.substring(0, equals), ways);
        }
        return grammar;
    }

    private static int behind(Pattern pattern, String tape, int place) {
        Matcher matcher = pattern.matcher(tape).region(place, tape.length());
        return matcher.lookingAt() ? matcher.end() : place;
    }

    private static String kindOf(String text) {
        if (text.isEmpty()) {
            return "wrong";
        }
        if (Character.isDigit(text.charAt(0))) {
            return text.length() > 5 ? "wrong" : "number";
        }
        if (Character.isLetter(text.charAt(0)) && !KEYWORDS.contains(text)) {
            return text.length() > 10 ? "wrong" : "name";
        }
        return text;
    }

    private void findWrongToken() {
        Set<Stack> stacks = Set.of(new Stack(0, List.of("program")));
        for (int i = 0; i < tokens.size(); i++) {
            stacks = i < 250 ? passed(unfolded(stacks), tokens.get(i).kind) : Set.of();
            if (stacks.isEmpty()) {
                tell(1, tokens.get(i).place);
                return;
            }
        }
        if (unfolded(stacks).stream().noneMatch(stack -> stack.symbols.isEmpty())) {
            tell(1, end);
        }
    }

    private void tell(int error, int place) {
        this.error = error;
        this.errorPlace = place;
    }

    /** All stacks that can stand for these ones and have a token, or nothing, on top. */
    private static Set<Stack> unfolded(Set<Stack> stacks) {
        Set<Stack> ready = new LinkedHashSet<>();
        List<Stack> open = new ArrayList<>(stacks);
        while (!open.isEmpty()) {
            Stack stack = open.remove(open.size() - 1);
            String top = stack.symbols.isEmpty() ? "" : stack.symbols.get(0);
            if (top.equals("^")) {
                open.add(stack.with(stack.depth - 1, List.of()));
            } else if (GRAMMAR.containsKey(top)) {
                GRAMMAR.get(top).forEach(way -> open.add(stack.with(stack.depth, way)));
            } else {
                ready.add(stack);
            }
        }
        return ready;
    }

    private static Set<Stack> passed(Set<Stack> stacks, String kind) {
        Set<Stack> passed = new LinkedHashSet<>();
        for (Stack stack : stacks) {
            String top = stack.symbols.isEmpty() ? "" : stack.symbols.get(0);
            if (top.equals(kind)) {
                passed.add(stack.with(stack.depth, List.of()));
            } else if (top.equals(kind + "!") && stack.depth < 8) {
                passed.add(stack.with(stack.depth + 1, List.of()));
            }
        }
        return passed;
    }

    private void findWrongName() {
        Set<String> told = new HashSet<>();
        String telling = "";
        int lets = 0;
        for (int i = 0; i < tokens.size() && error == 0; i++) {
            Token token = tokens.get(i);
            if (token.kind.equals(";")) {
                told.add(telling);
            } else if (token.kind.equals("name") && i > 0 && tokens.get(i - 1).kind.equals("let")) {
                lets++;
                telling = token.text;
                if (GIVEN.contains(telling) || told.contains(telling)) {
                    tell(2, token.place);
                } else if (lets == 9) {
                    tell(4, token.place);
                }
            } else if (token.kind.equals("name") && !GIVEN.contains(token.text) && !told.contains(token.text)) {
                tell(3, token.place);
            }
        }
    }

    int parts() {
        return (int) tokens.stream().filter(token -> token.kind.equals(";")).count();
    }

    /** What the first bid tells that decides, before it is held against the purse; null for no limit. */
    Integer bid(Map<String, Integer> given) {
        names = new HashMap<>(given);
        next = 0;
        while (next < tokens.size()) {
            if (took("let")) {
                String name = tokens.get(next).text;
                next += 2;
                names.put(name, sum());
            } else {
                boolean holds = !took("when") || test();
                if (took("pass")) {
                    if (holds) {
                        return null;
                    }
                } else {
                    next++;
                    int value = sum();
                    if (holds) {
                        return value;
                    }
                }
            }
            next++;
        }
        return null;
    }

    private boolean took(String kind) {
        boolean took = tokens.get(next).kind.equals(kind);
        next += took ? 1 : 0;
        return took;
    }

    private boolean test() {
        boolean holds = both();
        while (took("or")) {
            boolean other = both();
            holds = holds || other;
        }
        return holds;
    }

    private boolean both() {
        boolean holds = single();
        while (took("and")) {
            boolean other = single();
            holds = holds && other;
        }
        return holds;
    }

    private boolean single() {
        if (took("not")) {
            return !single();
        }
        if (took("[")) {
            boolean holds = test();
            next++;
            return holds;
        }
        int left = sum();
        String sign = tokens.get(next++).text;
        int order = Integer.compare(left, sum());
        return order == 0 ? sign.contains("=") : sign.startsWith(order < 0 ? "<" : ">");
    }

    private int sum() {
        int value = product();
        while (true) {
            if (took("+")) {
                value = (int) ((long) value + product());
            } else if (took("-")) {
                value = (int) ((long) value - product());
            } else {
                return value;
            }
        }
    }

    private int product() {
        int value = value();
        while (true) {
            if (took("*")) {
                value = (int) ((long) value * value());
            } else if (took("/")) {
                long divisor = value();
                value = divisor == 0 ? 0 : (int) (value / divisor);
            } else {
                return value;
            }
        }
    }

    private int value() {
        if (took("-")) {
            return (int) (0L - value());
        }
        Token token = tokens.get(next++);
        switch (token.kind) {
            case "number":
                return Integer.parseInt(token.text);
            case "name":
                return names.get(token.text);
            case "(":
                int inside = sum();
                next++;
                return inside;
            default:
                next++;
                int first = sum();
                next++;
                int second = sum();
                next++;
                return token.kind.equals("min") == first < second ? first : second;
        }
    }
}
