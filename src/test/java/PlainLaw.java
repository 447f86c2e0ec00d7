import java.util.ArrayDeque;
import java.util.ArrayList;
import java.util.Arrays;
import java.util.Deque;
import java.util.HashSet;
import java.util.List;
import java.util.Set;
import java.util.regex.Matcher;
import java.util.regex.Pattern;

/**
 * The language of laws and scripts a second time: faults by a table-driven parser with a stack,
 * values by walking a tree, so that nothing is shared with the way the program does it.
 */
final class PlainLaw {
    interface Sum {
        long of(PlainStreet.State state, int here);
    }

    record Token(String kind, String text, int at) { }

    record Clause(String act, int first, int second) { }

    int fault = 0;
    int place = -1;
    Sum holds = null;
    Sum gifts = null;
    final List<Clause> clauses = new ArrayList<>();
    private final List<Token> tokens = new ArrayList<>();

    private static final Set<String> STARTS = new HashSet<>(Arrays.asList(
            "holds", "gifts", "person", "kind", "good", "thank", "settle", "night"));
    private static final Set<String> BOTH_NAMES = new HashSet<>(Arrays.asList(
            "night", "snow", "here", "kind", "people"));
    private static final Set<String> RELATIONS = new HashSet<>(Arrays.asList("<", "<=", ">", ">=", "=", "#"));
    private static final Set<String> ALL_NAMES = new HashSet<>(Arrays.asList(
            "night", "snow", "here", "kind", "people", "left", "right", "last"));

    PlainLaw(String tape) {
        Matcher matcher = Pattern.compile("[ \n]+|([a-zA-Z]+)|([0-9]+)|(<=|>=|[<>=#+\\-*/();])|(.)",
                Pattern.DOTALL).matcher(tape);
        while (matcher.find()) {
            String text = matcher.group();
            if (matcher.group(1) != null) {
                tokens.add(new Token(text, text, matcher.start()));
            } else if (matcher.group(2) != null) {
                tokens.add(new Token("NUMBER", text, matcher.start()));
            } else if (matcher.group(3) != null) {
                tokens.add(new Token(text, text, matcher.start()));
            } else if (matcher.group(4) != null) {
                tokens.add(new Token("NOTHING", text, matcher.start()));
            }
        }
        tokens.add(new Token("FINISH", "", tape.length()));
        findFault();
        if (fault == 0) {
            build();
        }
    }

    private static long value(Token token) {
        return new java.math.BigInteger(token.text).min(java.math.BigInteger.valueOf(1000000)).longValue();
    }

    // ---- faults ----

    private void findFault() {
        Deque<String> stack = new ArrayDeque<>();
        stack.push("CLAUSES");
        String law = "";
        boolean[] seen = new boolean[2];
        int open = 0;
        int count = 0;
        int i = 0;
        while (!stack.isEmpty() && fault == 0) {
            Token token = tokens.get(i);
            String top = stack.pop();
            if (top.equals("CLOSED")) {
                open--;
                continue;
            }
            String[] more = expansion(top, token.kind);
            if (more != null) {
                for (int j = more.length - 1; j >= 0; j--) {
                    stack.push(more[j]);
                }
                continue;
            }
            Set<Integer> faults = new HashSet<>();
            boolean opening = top.startsWith("open ");
            String wanted = opening ? top.substring(5) : top.startsWith("start ") ? top.substring(6) : top;
            if (wanted.equals("NAME")) {
                if (!ALL_NAMES.contains(token.kind)) {
                    faults.add(1);
                } else if (!BOTH_NAMES.contains(token.kind) && token.kind.equals("last") != law.equals("gifts")) {
                    faults.add(5);
                }
            } else if (wanted.startsWith("NUMBER")) {
                if (!token.kind.equals("NUMBER")) {
                    faults.add(1);
                } else {
                    String[] range = wanted.split(":");
                    if (value(token) < Integer.parseInt(range[1]) || value(token) > Integer.parseInt(range[2])) {
                        faults.add(2);
                    }
                }
            } else if (!wanted.equals(token.kind)) {
                faults.add(1);
            }
            if (opening && ++open == 9) {
                faults.add(3);
            }
            if (top.startsWith("start ")) {
                law = token.kind;
                int which = law.equals("holds") ? 0 : law.equals("gifts") ? 1 : -1;
                if (which >= 0) {
                    if (seen[which]) {
                        faults.add(4);
                    }
                    seen[which] = true;
                }
                if (++count == 25) {
                    faults.add(6);
                }
            }
            if (!faults.isEmpty()) {
                fault = faults.stream().min(Integer::compare).get();
                place = token.at;
            }
            i++;
        }
    }

    /** What a part of the grammar stands for with that token ahead; null for what is matched itself. */
    private static String[] expansion(String top, String next) {
        switch (top) {
            case "CLAUSES":
                return next.equals("FINISH") ? list() : list("CLAUSE", "CLAUSES");
            case "CLAUSE":
                return clause(next);
            case "SUM":
                return list("PRODUCT", "SUMS");
            case "SUMS":
                return next.equals("+") || next.equals("-") ? list(next, "PRODUCT", "SUMS") : list();
            case "PRODUCT":
                return list("ONE", "ONES");
            case "ONES":
                return next.equals("*") || next.equals("/") ? list(next, "ONE", "ONES") : list();
            case "ONE":
                return one(next);
            case "EITHER":
                return list("BOTH", "BOTHS");
            case "BOTHS":
                return next.equals("or") ? list("or", "BOTH", "BOTHS") : list();
            case "BOTH":
                return list("ASK", "ASKS");
            case "ASKS":
                return next.equals("and") ? list("and", "ASK", "ASKS") : list();
            case "ASK":
                return next.equals("not") ? list("open not", "ASK", "CLOSED") : list("SUM", "RELATION", "SUM");
            case "RELATION":
                return list(RELATIONS.contains(next) ? next : "=");
            default:
                return null;
        }
    }

    private static String[] list(String... parts) {
        return parts;
    }

    private static String[] clause(String next) {
        switch (next) {
            case "holds":
            case "gifts":
                return list("start " + next, "SUM", ";");
            case "person":
            case "thank":
                return list("start " + next, "NUMBER:0:7", ";");
            case "kind":
                return list("start kind", "NUMBER:0:40", "at", "NUMBER:0:7", ";");
            case "good":
                return list("start good", "NUMBER:1:20", "at", "NUMBER:0:7", ";");
            case "night":
                return list("start night", "NUMBER:1:60", ";");
            default:
                return list("start settle", ";");
        }
    }

    private static String[] one(String next) {
        switch (next) {
            case "NUMBER":
                return list("NUMBER:0:9999");
            case "(":
                return list("open (", "SUM", ")", "CLOSED");
            case "-":
                return list("open -", "ONE", "CLOSED");
            case "house":
                return list("open house", "ONE", "CLOSED");
            case "over":
                return list("open over", "ONE", "of", "ONE", "CLOSED");
            case "if":
                return list("open if", "EITHER", "then", "SUM", "else", "SUM", "end", "CLOSED");
            default:
                return list("NAME");
        }
    }

    // ---- values; the text has no fault here ----

    private int at;

    private Token take() {
        return tokens.get(at++);
    }

    private String look() {
        return tokens.get(at).kind;
    }

    private void build() {
        at = 0;
        while (!look().equals("FINISH")) {
            String act = take().kind;
            if (!STARTS.contains(act)) {
                throw new IllegalStateException(act);
            }
            int first = 0;
            int second = 0;
            if (act.equals("holds")) {
                holds = sum();
            } else if (act.equals("gifts")) {
                gifts = sum();
            } else if (!act.equals("settle")) {
                first = (int) value(take());
                if (look().equals("at")) {
                    take();
                    second = (int) value(take());
                }
            }
            take();
            clauses.add(new Clause(act, first, second));
        }
    }

    private static long cut(long value) {
        return value > 1000000 ? 1000000 : value < -1000000 ? -1000000 : value;
    }

    private Sum sum() {
        Sum left = product();
        while (look().equals("+") || look().equals("-")) {
            Sum a = left;
            long sign = take().kind.equals("+") ? 1 : -1;
            Sum b = product();
            left = (s, h) -> cut(a.of(s, h) + sign * b.of(s, h));
        }
        return left;
    }

    private Sum product() {
        Sum left = one();
        while (look().equals("*") || look().equals("/")) {
            Sum a = left;
            boolean times = take().kind.equals("*");
            Sum b = one();
            left = times ? (s, h) -> cut(a.of(s, h) * b.of(s, h))
                    : (s, h) -> b.of(s, h) == 0 ? 0 : cut(a.of(s, h) / b.of(s, h));
        }
        return left;
    }

    private Sum one() {
        Token token = take();
        switch (token.kind) {
            case "NUMBER": {
                long value = value(token);
                return (s, h) -> value;
            }
            case "(": {
                Sum inside = sum();
                take();
                return inside;
            }
            case "-": {
                Sum a = one();
                return (s, h) -> -a.of(s, h);
            }
            case "house": {
                Sum a = one();
                return (s, h) -> kindnessAt(s, a.of(s, h));
            }
            case "over": {
                Sum a = one();
                take();
                Sum b = one();
                return (s, h) -> a.of(s, h) > b.of(s, h) ? cut(a.of(s, h) - b.of(s, h)) : 0;
            }
            case "if": {
                Sum asked = either();
                take();
                Sum yes = sum();
                take();
                Sum no = sum();
                take();
                return (s, h) -> asked.of(s, h) != 0 ? yes.of(s, h) : no.of(s, h);
            }
            default:
                return name(token.kind);
        }
    }

    private static long kindnessAt(PlainStreet.State state, long house) {
        return house < 0 || house > 7 ? 0 : state.kindness[(int) house];
    }

    private static Sum name(String name) {
        switch (name) {
            case "night":
                return (s, h) -> s.night;
            case "snow":
                return (s, h) -> s.snow;
            case "here":
                return (s, h) -> h;
            case "kind":
                return (s, h) -> s.kindness[h];
            case "people":
                return (s, h) -> s.homes.stream().filter(home -> home == h).count();
            case "left":
                return (s, h) -> kindnessAt(s, h - 1);
            case "right":
                return (s, h) -> kindnessAt(s, h + 1);
            case "last":
                return (s, h) -> s.last;
            default:
                throw new IllegalStateException(name);
        }
    }

    private Sum either() {
        Sum left = both();
        while (look().equals("or")) {
            take();
            Sum a = left;
            Sum b = both();
            left = (s, h) -> a.of(s, h) + b.of(s, h) > 0 ? 1 : 0;
        }
        return left;
    }

    private Sum both() {
        Sum left = ask();
        while (look().equals("and")) {
            take();
            Sum a = left;
            Sum b = ask();
            left = (s, h) -> a.of(s, h) * b.of(s, h);
        }
        return left;
    }

    private Sum ask() {
        if (look().equals("not")) {
            take();
            Sum a = ask();
            return (s, h) -> 1 - a.of(s, h);
        }
        Sum a = sum();
        String relation = take().kind;
        Sum b = sum();
        return (s, h) -> {
            int order = Long.compare(a.of(s, h), b.of(s, h));
            boolean so = relation.equals("<") ? order < 0 : relation.equals("<=") ? order <= 0
                    : relation.equals(">") ? order > 0 : relation.equals(">=") ? order >= 0
                    : relation.equals("=") ? order == 0 : order != 0;
            return so ? 1 : 0;
        };
    }
}
