import java.util.ArrayList;
import java.util.List;
import java.util.Random;

/** Random texts: most without a fault, some with a token or a byte changed. */
final class TextMaker {
    private static final String[] STRAY = {"holds", "gifts", "person", "kind", "good", "thank", "settle", "night", "at",
        "over", "of", "house", "if", "then", "else", "end", "or", "and", "not", "snow", "here", "people", "left",
        "right", "last", "<", "<=", ">", ">=", "=", "#", "+", "-", "*", "/", "(", ")", ";", "0", "7", "8", "41", "9999",
        "10000", "99999999999", "007", "x", "Kind", "!", "\t", "\u00e9", "\u0000"};
    private static final String[] RELATIONS = {"<", "<=", ">", ">=", "=", "#"};

    private final Random random;

    TextMaker(Random random) {
        this.random = random;
    }

    private int upTo(int n) {
        return random.nextInt(n + 1);
    }

    String text() {
        List<String> tokens = new ArrayList<>();
        boolean holds = random.nextInt(4) > 0;
        boolean gifts = random.nextBoolean();
        int clauses = random.nextInt(12) == 0 ? 20 + upTo(6) : upTo(5);
        for (int i = 0; i < clauses; i++) {
            deed(tokens);
        }
        if (holds) {
            law(tokens, "holds");
        }
        if (gifts) {
            law(tokens, "gifts");
        }
        while (random.nextInt(4) == 0) {
            deed(tokens);
        }
        if (random.nextInt(30) == 0) {
            law(tokens, random.nextBoolean() ? "holds" : "gifts");
        }
        if (random.nextInt(3) > 0) {
            spoil(tokens);
        }
        String text = joined(tokens);
        return text.length() > 300 ? text.substring(0, random.nextInt(301)) : text;
    }

    private void spoil(List<String> tokens) {
        for (int n = 1 + upTo(1); n > 0 && !tokens.isEmpty(); n--) {
            int at = random.nextInt(tokens.size());
            String stray = STRAY[random.nextInt(STRAY.length)];
            switch (random.nextInt(4)) {
                case 0:
                    tokens.remove(at);
                    break;
                case 1:
                    tokens.add(at, stray);
                    break;
                case 2:
                    tokens.set(at, stray);
                    break;
                default:
                    tokens.subList(at, tokens.size()).clear();
                    break;
            }
        }
    }

    private String joined(List<String> tokens) {
        StringBuilder all = new StringBuilder();
        boolean tight = random.nextInt(10) > 0;
        for (String token : tokens) {
            boolean apart = all.length() > 0 && isWord(all.charAt(all.length() - 1)) && isWord(token.charAt(0));
            if (apart || !tight && random.nextInt(3) == 0) {
                all.append(random.nextInt(9) == 0 ? '\n' : ' ');
            }
            all.append(token);
        }
        return all.toString();
    }

    private static boolean isWord(char c) {
        return c < 128 && Character.isLetterOrDigit(c);
    }

    private void add(List<String> tokens, Object... more) {
        for (Object one : more) {
            tokens.add(one.toString());
        }
    }

    private void deed(List<String> tokens) {
        switch (random.nextInt(9)) {
            case 0:
                add(tokens, "person", upTo(7), ";");
                break;
            case 1:
            case 2:
                add(tokens, "kind", upTo(40), "at", upTo(7), ";");
                break;
            case 3:
            case 4:
            case 5:
                add(tokens, "good", 1 + upTo(19), "at", upTo(7), ";");
                break;
            case 6:
                add(tokens, "thank", upTo(7), ";");
                break;
            case 7:
                add(tokens, "settle", ";");
                break;
            default:
                add(tokens, "night", 1 + upTo(random.nextInt(5) == 0 ? 59 : 3), ";");
                break;
        }
    }

    private void law(List<String> tokens, String law) {
        add(tokens, law);
        sum(tokens, law, random.nextInt(20) == 0 ? 12 : 1 + upTo(3));
        add(tokens, ";");
    }

    private void sum(List<String> tokens, String law, int depth) {
        product(tokens, law, depth);
        while (random.nextInt(3) == 0) {
            add(tokens, random.nextBoolean() ? "+" : "-");
            product(tokens, law, depth - 1);
        }
    }

    private void product(List<String> tokens, String law, int depth) {
        one(tokens, law, depth);
        while (random.nextInt(5) == 0) {
            add(tokens, random.nextBoolean() ? "*" : "/");
            one(tokens, law, depth - 1);
        }
    }

    private void one(List<String> tokens, String law, int depth) {
        int kind = depth <= 0 ? random.nextInt(6) : random.nextInt(depth > 5 ? 8 : 14) + (depth > 5 ? 6 : 0);
        if (kind < 2) {
            add(tokens, random.nextInt(12) == 0 ? upTo(9999) : upTo(4));
        } else if (kind < 6) {
            name(tokens, law);
        } else if (kind < 7) {
            add(tokens, "(");
            sum(tokens, law, depth - 1);
            add(tokens, ")");
        } else if (kind < 8) {
            add(tokens, "-");
            one(tokens, law, depth - 1);
        } else if (kind < 10) {
            add(tokens, "over");
            one(tokens, law, depth - 1);
            add(tokens, "of");
            one(tokens, law, depth - 1);
        } else if (kind < 12) {
            add(tokens, "house");
            one(tokens, law, depth - 1);
        } else {
            add(tokens, "if");
            either(tokens, law, depth - 1);
            add(tokens, "then");
            sum(tokens, law, depth - 1);
            add(tokens, "else");
            sum(tokens, law, depth - 1);
            add(tokens, "end");
        }
    }

    private void name(List<String> tokens, String law) {
        String[] names = law.equals("holds") ? new String[] {"night", "snow", "here", "kind", "people", "left", "right"}
                : new String[] {"night", "snow", "here", "kind", "people", "last"};
        add(tokens, names[random.nextInt(names.length)]);
    }

    private void either(List<String> tokens, String law, int depth) {
        ask(tokens, law, depth);
        while (random.nextInt(3) == 0) {
            add(tokens, random.nextBoolean() ? "or" : "and");
            ask(tokens, law, depth - 1);
        }
    }

    private void ask(List<String> tokens, String law, int depth) {
        if (random.nextInt(4) == 0) {
            add(tokens, "not");
            ask(tokens, law, depth - 1);
            return;
        }
        sum(tokens, law, depth - 1);
        add(tokens, RELATIONS[random.nextInt(RELATIONS.length)]);
        sum(tokens, law, depth - 1);
    }
}
