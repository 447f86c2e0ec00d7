import java.util.ArrayList;
import java.util.HashSet;
import java.util.List;
import java.util.Set;
import java.util.function.BooleanSupplier;
import java.util.function.LongSupplier;

/**
 * Tests of boundary cases. Each stands under a place of the document (a part or a promise) and
 * under the sentence there that names the case, and is told by both when it fails.
 */
final class Edges {
    static final int NONE = ThankedMoves.NONE;
    static final int LOW = Integer.MIN_VALUE;
    static final int HIGH = Integer.MAX_VALUE;

    /** What is no house, from the nearest to the farthest. */
    static final int[] NO_HOUSES = {-1, 8, LOW, HIGH};

    record Quote(String place, String sentence) { }

    private final List<Quote> quotes = new ArrayList<>();
    private final Set<String> names = new HashSet<>();
    private String place = "";
    private String sentence = "";
    private String edge = "";
    private int asked = 0;
    private int wrong = 0;

    /** The part ("II") or promise ("Promise 6") that the next tests are of. */
    void at(String where) {
        place = where;
    }

    /** The sentence that the next tests are of, in the document's words. */
    void says(String words) {
        sentence = words;
        quotes.add(new Quote(place, words));
    }

    void test(String name, Runnable body) {
        edge = name;
        int before = asked;
        try {
            body.run();
        } catch (RuntimeException broken) {
            fail("broke off: " + broken);
        }
        if (asked == before) {
            fail("asked nothing");
        }
        if (!names.add(place + sentence + name)) {
            fail("there are two of that name");
        }
    }

    void fail(String what) {
        wrong++;
        System.out.println(place + ", \"" + sentence + "\", " + edge + ": " + what);
    }

    void due(String call, long got, long want) {
        asked++;
        if (got != want) {
            fail(call + " answered " + got + ", due is " + want);
        }
    }

    void due(String call, boolean got, boolean want) {
        due(call, got ? 1 : 0, want ? 1 : 0);
    }

    void same(String call, String got, String want) {
        asked++;
        if (!got.equals(want)) {
            fail(call + " answered " + got + ", due is " + want);
        }
    }

    /** A call that is refused by its answer and leaves all as it was. */
    void refused(ThankedMoves x, String call, LongSupplier ask, long want) {
        String before = state(x);
        due(call, ask.getAsLong(), want);
        same("all that is behind " + call, state(x), before);
    }

    void refused(ThankedMoves x, String call, BooleanSupplier ask) {
        refused(x, call, () -> ask.getAsBoolean() ? 1 : 0, 0);
    }

    /** All that can be told of an object in some thirty calls. */
    static String state(ThankedMoves x) {
        StringBuilder all = new StringBuilder(Check.kinds(x)).append(" is");
        for (int what = 0; what < 5; what++) {
            all.append(' ').append(x.is(what));
        }
        all.append(" people");
        for (int person = 0; person < 5; person++) {
            all.append(' ').append(x.ofPerson(person));
        }
        all.append(" book ").append(x.book(NONE, 0)).append(' ').append(x.book(0, 1)).append(" about");
        for (int what = 0; what < 7; what++) {
            all.append(' ').append(x.about(what));
        }
        return all.append(" fault ").append(x.fault(0)).append(' ').append(x.fault(1)).toString();
    }

    /** Moves people from house 0 on, one move by one and one person behind the other. */
    static void journey(ThankedMoves x, int moves) {
        for (int i = 0; i < moves; i++) {
            if (i % 8 == 0) {
                x.person(0);
            }
            x.kind(i % 8, 2);
            x.thank(i % 8);
        }
    }

    /** A street in that NIGHT, from 0 on. */
    static ThankedMoves inNight(int night) {
        ThankedMoves x = new ThankedMoves();
        passTo(x, night);
        return x;
    }

    static void passTo(ThankedMoves x, int night) {
        int left = night - x.is(0);
        while (left > 0) {
            int some = Math.min(60, left);
            x.night(some);
            left -= some;
        }
    }

    List<Quote> quotes() {
        return quotes;
    }

    int tests() {
        return names.size();
    }

    int asked() {
        return asked;
    }

    int wrong() {
        return wrong;
    }
}
