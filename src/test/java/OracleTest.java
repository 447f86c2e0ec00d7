import java.lang.reflect.Method;
import java.util.ArrayList;
import java.util.List;
import java.util.Map;
import java.util.Random;
import java.util.TreeMap;

/**
 * Random runs of calls, each answered by the program and by PlainStreet alike: long ones of all
 * calls, short ones that ask much of one street with people in it, ones of many texts, and ones
 * of the cart.
 */
public final class OracleTest {
    private static final int RUNS = 160;
    private static final int CALLS = 330;
    private static final int ASKS = 60;
    private static final int SHORT_RUNS_A_LONG_ONE = 4;

    // What an object answers behind these is free.
    private static final int MOST_CALLS = 512;

    /** Each call with the highest valid value of each argument; a boolean is b. */
    private static final String[] CALLS_AND_RANGES = {
        "person 7", "kind 7 40", "feed x x x x x", "end 300", "text", "fault 1", "by 3", "good 7 20", "thank 7",
        "settle", "night 60", "played 3", "years 9999 40", "undo", "of 7 4", "ofPerson 4", "is 5", "book 29 2",
        "foretold 60 1 7", "rest 7 1", "wave 7", "greatest b", "reached 7", "waves 7 7", "until 7 7", "mover b",
        "again", "period 7 b", "least 4 b", "meet 4 4 2", "doers b", "likely 4 3 b", "off 3 b", "need 7 30",
        "cart 7", "round 7 7", "sick", "beside 4", "alone", "spread", "crowded", "empty", "said 7 9", "whose",
        "ready", "balance", "middle", "kindest", "travelled", "ledger 4", "image", "back", "about 6"
    };

    private static final String DOING = " good thank settle night years undo kind person ";

    private static final Map<String, Method> OURS = methods(ThankedMoves.class);
    private static final Map<String, Method> PLAIN = methods(PlainStreet.class);

    private static Map<String, Method> methods(Class<?> type) {
        Map<String, Method> all = new TreeMap<>();
        for (Method method : type.getDeclaredMethods()) {
            if (!java.lang.reflect.Modifier.isPrivate(method.getModifiers())) {
                method.setAccessible(true);
                all.put(method.getName(), method);
            }
        }
        return all;
    }

    private final Random random;
    private final ThankedMoves ours = new ThankedMoves();
    private final PlainStreet plain = new PlainStreet();
    private final TextMaker maker;
    private final List<String> log = new ArrayList<>();

    private OracleTest(long seed) {
        random = new Random(seed);
        maker = new TextMaker(random);
    }

    private static int wrong = 0;

    public static void main(String[] args) throws Exception {
        int runs = args.length > 0 ? Integer.parseInt(args[0]) : RUNS;
        long first = args.length > 1 ? Long.parseLong(args[1]) : 1;
        for (long seed = first; seed < first + runs && wrong < 5; seed++) {
            new OracleTest(seed).run();
            for (int i = 0; i < SHORT_RUNS_A_LONG_ONE; i++) {
                new OracleTest(seed * 1000 + i).askRun();
                new OracleTest(seed * 1000 + i).textRun();
                new OracleTest(seed * 1000 + i).cartRun();
            }
        }
        System.out.println(wrong == 0 ? "all runs are as due" : wrong + " runs are not as due");
        System.exit(wrong == 0 ? 0 : 1);
    }

    private void run() throws Exception {
        // A run has its own temper, so that some keep their street for long and others change it.
        int doing = random.nextInt(60);
        int texts = random.nextInt(12);
        boolean fine = opening(random.nextInt(8));
        for (int i = 0; i < CALLS && fine; i++) {
            if (random.nextInt(100) < texts) {
                fine = tellText();
            } else if (random.nextInt(150) == 0) {
                fine = undoAll();
            } else {
                String[] chosen = CALLS_AND_RANGES[random.nextInt(CALLS_AND_RANGES.length)].split(" ");
                boolean does = DOING.contains(" " + chosen[0] + " ");
                if (does && random.nextInt(60) < doing || chosen[0].equals("back") && random.nextInt(3) > 0) {
                    continue;
                }
                fine = call(chosen[0], arguments(chosen));
            }
        }
        report(fine);
    }

    private void report(boolean fine) {
        if (!fine) {
            wrong++;
            System.out.println("a run that ends wrongly: " + log.subList(Math.max(0, log.size() - 40), log.size()));
        }
    }

    /** A street near rest with some people and perhaps a law, of which much is asked. */
    private void askRun() throws Exception {
        boolean fine = random.nextInt(3) == 0 || tellText();
        int most = random.nextInt(4);
        for (int h = 0; h < 8; h++) {
            fine &= call("kind", h, random.nextInt(most + 1));
        }
        int people = 1 + random.nextInt(5);
        int left = random.nextInt(8);
        for (int p = 0; p < people; p++) {
            fine &= call("person", left + random.nextInt(8 - left));
        }
        if (random.nextBoolean()) {
            fine &= call("image") && call("good", random.nextInt(8), 1) && call("settle") && call("again");
        }
        for (int i = 0; i < ASKS && fine; i++) {
            String[] chosen = CALLS_AND_RANGES[18 + random.nextInt(CALLS_AND_RANGES.length - 18)].split(" ");
            if (!chosen[0].equals("back") || random.nextInt(9) == 0) {
                fine = call(chosen[0], arguments(chosen));
            }
        }
        report(fine);
    }

    /** Many texts, most of them spoilt, and what the laws say of a street as it is. */
    private void textRun() throws Exception {
        boolean fine = true;
        for (int i = 0; i < 30 && fine; i++) {
            fine = call("kind", random.nextInt(8), random.nextInt(41)) && call("person", random.nextInt(8));
            fine = fine && tellText() && (random.nextInt(4) > 0 || call("back")) && call("about", 1);
        }
        report(fine);
    }

    /** Needs that are told, taken away and told anew, and the rounds from each house. */
    private void cartRun() throws Exception {
        boolean fine = true;
        int latest = 1 + random.nextInt(30);
        for (int i = 0; i < 6 && fine; i++) {
            for (int n = i == 0 ? 5 : 1; n > 0; n--) {
                fine &= call("need", random.nextInt(8), random.nextInt(5) == 0 ? -1 : random.nextInt(latest + 1));
            }
            for (int from = 0; from < 8 && fine; from++) {
                fine = call("cart", from);
                for (int stop = 0; stop < 8 && fine; stop++) {
                    fine = call("round", from, stop);
                }
            }
        }
        report(fine);
    }

    /** Brings some runs to where the edges are: the last nights, and houses of 99 and more. */
    private boolean opening(int kind) throws Exception {
        boolean fine = true;
        if (kind == 0) {
            for (int i = 0; i < 166; i++) {
                fine &= call("night", 60);
            }
            fine &= call("night", 20 + random.nextInt(20));
        } else if (kind == 1) {
            for (int h = 0; h < 8; h++) {
                fine &= call("person", h) && call("kind", h, 36 + random.nextInt(5));
                for (int i = 0; i < 3 && random.nextInt(3) > 0; i++) {
                    fine &= call("good", h, 18 + random.nextInt(3));
                }
            }
            for (int i = 0; i < 9; i++) {
                fine &= call("thank", random.nextInt(8));
            }
            fine &= call("image");
        }
        return fine;
    }

    private boolean undoAll() throws Exception {
        boolean fine = true;
        for (int i = 0; i < 31 && fine; i++) {
            fine = call("undo") && call("is", random.nextInt(6)) && call("of", random.nextInt(8), 0)
                    && call("book", random.nextInt(31) - 1, random.nextInt(3)) && call("ofPerson", random.nextInt(5));
        }
        return fine;
    }

    private Object[] arguments(String[] chosen) {
        Object[] arguments = new Object[chosen.length - 1];
        for (int i = 0; i < arguments.length; i++) {
            String range = chosen[i + 1];
            arguments[i] = range.equals("b") ? (Object) random.nextBoolean()
                    : range.equals("x") ? (Object) random.nextInt() : (Object) number(Integer.parseInt(range));
        }
        return arguments;
    }

    private int number(int highest) {
        int kind = random.nextInt(40);
        if (kind == 0) {
            return highest + 1;
        }
        if (kind == 1) {
            return -1;
        }
        if (kind == 2) {
            int[] far = {-2, Integer.MIN_VALUE, Integer.MAX_VALUE, highest + 2, 0};
            return far[random.nextInt(far.length)];
        }
        // Small ones are as many as all others: much of what is asked needs a small number.
        return random.nextBoolean() ? random.nextInt(highest + 1) : random.nextInt(Math.min(highest, 5) + 1);
    }

    private boolean tellText() throws Exception {
        byte[] bytes = Check.bytes(maker.text());
        boolean fine = call("end", 0);
        for (int i = 0; i < bytes.length; i += 20) {
            Object[] words = new Object[5];
            for (int w = 0; w < 5; w++) {
                int word = 0;
                for (int j = 0; j < 4; j++) {
                    int at = i + 4 * w + j;
                    word = word << 8 | (at < bytes.length ? bytes[at] & 255 : 0);
                }
                words[w] = word;
            }
            fine &= call("feed", words);
        }
        fine &= call("end", bytes.length) && call("text") && call("fault", 0) && call("fault", 1);
        if (fine && random.nextInt(3) > 0) {
            fine = call("by", random.nextInt(4));
        }
        if (fine && random.nextInt(3) == 0) {
            fine = call("played", random.nextInt(4));
        }
        for (int h = 0; h < 8 && fine; h++) {
            fine = call("of", h, 2) && call("of", h, 3);
        }
        if (!fine) {
            System.out.println(new String(bytes, java.nio.charset.StandardCharsets.ISO_8859_1));
        }
        return fine;
    }

    private boolean call(String name, Object... arguments) throws Exception {
        if (log.size() >= MOST_CALLS) {
            return true;
        }
        Object got = OURS.get(name).invoke(ours, arguments);
        Object due = PLAIN.get(name).invoke(plain, arguments);
        StringBuilder line = new StringBuilder(name).append("(");
        for (int i = 0; i < arguments.length; i++) {
            line.append(i == 0 ? "" : ", ").append(arguments[i]);
        }
        log.add(line.append(") ").append(got).toString());
        if (!got.equals(due)) {
            log.add("due is " + due);
        }
        return got.equals(due);
    }
}
