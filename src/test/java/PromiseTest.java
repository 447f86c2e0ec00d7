/** Each promise by hand: ordinary inputs, the edges that the document names, and wrong inputs. */
public final class PromiseTest {
    private static final int NONE = ThankedMoves.NONE;
    private static final int LOW = Integer.MIN_VALUE;
    private static final int HIGH = Integer.MAX_VALUE;
    private static final Check check = new Check();

    public static void main(String[] args) {
        newObject();
        person();
        kind();
        feedAndEnd();
        text();
        PromiseLaws.run(check);
        fault();
        by();
        good();
        thank();
        settle();
        night();
        played();
        years();
        undo();
        of();
        is();
        book();
        PromiseAsks.run(check);
        PromiseStreet.run(check);
        check.finish();
    }

    private static void newObject() {
        ThankedMoves x = new ThankedMoves();
        int[] about = {0, 0, NONE, 0, 0, 0, 0};
        for (int i = 0; i < about.length; i++) {
            check.due(1, "about(" + i + ")", x.about(i), about[i]);
        }
        int[] is = {0, 347, 0, 0, 0, 0};
        for (int i = 0; i < is.length; i++) {
            check.due(1, "is(" + i + ")", x.is(i), is[i]);
        }
        check.due(1, "ofPerson(0) of nobody", x.ofPerson(0), -2);
        x.person(3);
        x.good(2, 7);
        x.night(2);
        x.need(1, 4);
        check.due(1, "back() to the new object", x.back(), 0);
        check.due(1, "people behind back", x.about(0), 0);
        check.same(1, "kindness behind back", Check.kinds(x), "00000000");
        check.due(1, "X behind back", x.is(1), 347);
        check.due(1, "steps behind back", x.about(3), 0);
        check.due(1, "needs behind back", x.about(4), 0);
    }

    private static void person() {
        ThankedMoves x = new ThankedMoves();
        for (int wrong : new int[] {-1, 8, LOW, HIGH}) {
            check.due(2, "person(" + wrong + ")", x.person(wrong), NONE);
        }
        int[] homes = {7, 0, 3, 3, 5};
        for (int i = 0; i < homes.length; i++) {
            check.due(2, "person(" + homes[i] + ")", x.person(homes[i]), i);
            check.due(2, "its house", x.ofPerson(i), homes[i]);
        }
        check.due(2, "the sixth", x.person(1), NONE);
        check.due(2, "still five", x.about(0), 5);
        check.due(2, "telling is no step", x.about(3), 0);
    }

    private static void kind() {
        ThankedMoves x = new ThankedMoves();
        check.due(3, "kind(0, 40)", x.kind(0, 40), true);
        check.due(3, "kind(7, 1)", x.kind(7, 1), true);
        int[][] wrong = {{8, 1}, {-1, 1}, {0, 41}, {0, -1}, {LOW, 0}, {HIGH, 0}, {0, LOW}, {0, HIGH}};
        for (int[] w : wrong) {
            check.due(3, "kind(" + w[0] + ", " + w[1] + ")", x.kind(w[0], w[1]), false);
        }
        check.same(3, "kindness", Check.kinds(x), "[40]0000001");
        check.due(3, "kind(0, 0)", x.kind(0, 0), true);
        check.same(3, "kindness", Check.kinds(x), "00000001");
        check.due(3, "telling is no step", x.about(3), 0);
    }

    private static void feedAndEnd() {
        ThankedMoves x = new ThankedMoves();
        check.due(5, "end(1) of nothing", x.end(1), NONE);
        check.due(5, "end(0) of nothing", x.end(0), 0);
        for (int n = 20; n <= 300; n += 20) {
            check.due(4, "feed", x.feed(n, 2, 3, 4, 5), n);
        }
        check.due(4, "feed beyond 300", x.feed(1, 2, 3, 4, 5), NONE);
        check.due(4, "none came", x.about(6), 300);
        check.due(5, "end(301)", x.end(301), NONE);
        check.due(5, "end(-1)", x.end(-1), NONE);
        check.due(5, "end(HIGH)", x.end(HIGH), NONE);
        check.due(5, "end(LOW)", x.end(LOW), NONE);
        check.due(5, "nothing was done", x.about(6), 300);
        check.due(5, "end(281)", x.end(281), 281);
        check.due(4, "feed to 301", x.feed(1, 2, 3, 4, 5), NONE);
        check.due(5, "end(280)", x.end(280), 280);
        check.due(4, "feed to 300", x.feed(1, 2, 3, 4, 5), 300);
        check.due(5, "end(0)", x.end(0), 0);
        check.due(5, "the tape is empty", x.about(6), 0);
        // "holds     7 ;" with the highest byte first, and nothing between two feeds
        x.feed(0x686f6c64, 0x73202020, 0x20202020, 0x20202020, 0x20202037);
        check.due(4, "the second feed", x.feed(0x203b0000, 0, 0, 0, 0), 40);
        x.end(22);
        check.due(4, "text of two feeds", x.text(), 0);
        x.by(0);
        check.due(4, "its law", x.of(0, 2), 7);
        // bytes above 127 come as they are: none of them is a token
        x.feed(0xff000000, 0, 0, 0, 0);
        check.due(4, "text of a byte 255", x.text(), NONE);
        check.due(4, "its fault", x.fault(0), 1);
    }

    private static void text() {
        ThankedMoves x = new ThankedMoves();
        check.due(6, "an empty tape is a text", x.text(), 0);
        check.due(6, "blanks alone are a text", Check.text(x, " \n "), 1);
        check.due(6, "the tape is empty then", x.about(6), 0);
        check.due(6, "a text with a fault", Check.text(x, "holds;"), NONE);
        check.due(6, "the tape is empty then too", x.about(6), 0);
        check.due(6, "and it is none of the texts", x.about(1), 2);
        check.due(6, "the third", Check.text(x, "holds 1;"), 2);
        check.due(6, "the fourth", Check.text(x, "holds 2;"), 3);
        check.due(6, "a fifth", Check.text(x, "holds;"), NONE);
        check.due(6, "the tape stays", x.about(6), 6);
        check.due(6, "it was not read", x.fault(0), 0);
        check.due(6, "there are 4", x.about(1), 4);
    }

    private static void fault() {
        ThankedMoves x = new ThankedMoves();
        check.due(7, "fault(0) ahead of any", x.fault(0), NONE);
        check.due(7, "fault(1) ahead of any", x.fault(1), NONE);
        Check.text(x, "settle");
        check.due(7, "fault(0)", x.fault(0), 1);
        check.due(7, "fault(1)", x.fault(1), 6);
        for (int wrong : new int[] {-1, 2, LOW, HIGH}) {
            check.due(7, "fault(" + wrong + ")", x.fault(wrong), NONE);
        }
        Check.text(x, "settle;");
        check.due(7, "fault(0) without", x.fault(0), 0);
        check.due(7, "fault(1) without", x.fault(1), NONE);
    }

    private static void by() {
        ThankedMoves x = new ThankedMoves();
        check.due(8, "by(0) of no text", x.by(0), false);
        check.due(8, "by(NONE)", x.by(NONE), true);
        Check.text(x, "holds 3;gifts 5;");
        Check.text(x, "settle;");
        check.due(8, "a text that is read does not rule", x.of(0, 2), 0);
        check.due(8, "by(0)", x.by(0), true);
        check.due(8, "THE TEXT", x.about(2), 0);
        check.due(8, "its holds", x.of(0, 2), 3);
        check.due(8, "its gifts", x.of(0, 3), 5);
        for (int wrong : new int[] {2, -2, LOW, HIGH}) {
            check.due(8, "by(" + wrong + ")", x.by(wrong), false);
        }
        check.due(8, "THE TEXT yet", x.about(2), 0);
        check.due(8, "by(1)", x.by(1), true);
        check.due(8, "without holds", x.of(0, 2), 0);
        check.due(8, "without gifts", x.of(0, 3), 1);
        check.due(8, "by(NONE)", x.by(NONE), true);
        check.due(8, "THE TEXT none", x.about(2), NONE);
    }

    private static void good() {
        ThankedMoves x = new ThankedMoves();
        check.due(9, "good(3, 20)", x.good(3, 20), true);
        check.due(9, "its kindness", x.of(3, 0), 20);
        int[][] wrong = {{8, 1}, {-1, 1}, {0, 0}, {0, 21}, {0, -1}, {LOW, 1}, {HIGH, 1}, {0, LOW}, {0, HIGH}};
        for (int[] w : wrong) {
            check.due(9, "good(" + w[0] + ", " + w[1] + ")", x.good(w[0], w[1]), false);
        }
        check.due(9, "one step", x.about(3), 1);
        for (int i = 0; i < 3; i++) {
            x.good(3, 20);
        }
        check.due(9, "good to 100", x.good(3, 20), false);
        check.due(9, "good to 99", x.good(3, 19), true);
        check.due(9, "good beyond 99", x.good(3, 1), false);
        check.due(9, "99", x.of(3, 0), 99);
        check.due(9, "five steps", x.about(3), 5);
    }

    private static void thank() {
        ThankedMoves x = Check.street(null, 2, 1, 0, 0, 0, 0, 5, 3);
        int[] homes = {7, 0, 7, 6};
        for (int home : homes) {
            x.person(home);
        }
        check.due(10, "thank(1)", x.thank(1), false);
        for (int wrong : new int[] {-1, 8, LOW, HIGH}) {
            check.due(10, "thank(" + wrong + ")", x.thank(wrong), false);
        }
        check.due(10, "no step", x.about(3), 0);
        check.due(10, "thank(7)", x.thank(7), true);
        check.same(10, "kindness", Check.kinds(x), "21000061");
        check.due(10, "gone", x.is(3), 1);
        check.due(10, "off", x.ofPerson(0), NONE);
        check.due(10, "off", x.ofPerson(2), NONE);
        check.due(10, "not moved", x.ofPerson(3), 6);
        check.due(10, "written, by number", x.book(0, 1), 0);
        check.due(10, "written, by number", x.book(1, 1), 2);
        check.due(10, "written: off", x.book(1, 2), NONE);
        check.due(10, "thank(0)", x.thank(0), true);
        check.same(10, "kindness", Check.kinds(x), "02000061");
        check.due(10, "gone", x.is(3), 2);
        check.due(10, "moved", x.ofPerson(1), 1);
        check.due(10, "thanked by hand is not by night", x.is(4), 0);
        check.due(10, "two steps", x.about(3), 2);
        ThankedMoves y = Check.street("holds 3;", 4, 5);
        check.due(10, "1 more than holds", y.thank(0), false);
        check.due(10, "2 more than holds", y.thank(1), true);
        ThankedMoves z = new ThankedMoves();
        for (int i = 0; i < 5; i++) {
            z.good(3, i < 4 ? 20 : 19);
        }
        z.kind(2, 2);
        z.thank(2);
        check.due(10, "thanks go beyond 99", z.of(3, 0), 100);
        check.due(10, "no good there", z.good(3, 1), false);
    }

    private static void settle() {
        ThankedMoves x = Check.street(null, 0, 0, 2, 1);
        x.person(2);
        check.due(11, "settle()", x.settle(), 2);
        check.same(11, "kindness", Check.kinds(x), "01101000");
        check.due(11, "moved twice", x.ofPerson(0), 4);
        check.due(11, "settle() at rest", x.settle(), NONE);
        check.due(11, "one step", x.about(3), 1);
        // Kindness is thanked from the lowest on: 1 is thanked ahead of 5, so person 0 is written first.
        ThankedMoves y = Check.street(null, 0, 2, 0, 0, 0, 2);
        y.person(5);
        y.person(1);
        check.due(11, "settle()", y.settle(), 2);
        check.due(11, "the lowest first", y.book(0, 1), 1);
        ThankedMoves z = Check.street("holds 9;", 10, 10, 10, 10, 10, 10, 10, 10);
        check.due(11, "below what it holds and 2", z.settle(), NONE);
        z.kind(4, 11);
        check.due(11, "all by one", z.settle() > 0, true);
        // A law that looks to the far end: house 0 comes off once house 7 is thanked, and is next then.
        ThankedMoves far = Check.street("holds if house 7>9 then 9 else 0 end;", 2, 0, 0, 0, 0, 2, 0, 11);
        far.person(0);
        far.person(5);
        far.person(7);
        check.due(11, "by a far house", far.settle() > 0, true);
        check.due(11, "the one of 7 goes first", far.book(0, 1), 2);
        check.due(11, "then the lowest", far.book(1, 1), 0);
    }

    private static void night() {
        ThankedMoves x = new ThankedMoves();
        for (int wrong : new int[] {0, -1, 61, LOW, HIGH}) {
            check.due(12, "night(" + wrong + ")", x.night(wrong), NONE);
        }
        check.due(12, "night(1)", x.night(1), 0);
        check.due(12, "X", x.is(1), 7153);
        check.due(12, "SNOW", x.is(2), 0);
        check.same(12, "347 mod 10 is 7: no snow; 23282 mod 8 is 2", Check.kinds(x), "00100000");
        check.due(12, "night(2)", x.night(2), 0);
        check.same(12, "two nights more", Check.kinds(x), "10100010");
        check.due(12, "X", x.is(1), 8535);
        check.due(12, "NIGHT", x.is(0), 3);
        check.due(12, "each is a step", x.about(3), 3);
        check.due(12, "night(60)", x.night(60), 0);
        check.due(12, "NIGHT", x.is(0), 63);

        ThankedMoves off = Check.street("gifts 9;", 1, 1, 1, 1, 1, 1, 1, 1);
        off.person(7);
        off.person(6);
        off.person(7);
        check.due(12, "how many go off", off.night(60), 3);
        check.due(12, "nobody more", off.night(60), 0);
        ThankedMoves one = Check.street(null, 0, 0, 0, 0, 0, 0, 0, 2);
        one.person(0);
        one.person(7);
        check.due(12, "one of two goes off", one.night(1), 1);
        ThankedMoves none = new ThankedMoves();
        none.person(7);
        none.person(0);
        check.due(12, "none of two goes off", none.night(1), 0);

        ThankedMoves full = Check.street("gifts 9;holds 9;");
        for (int i = 0; i < 5; i++) {
            full.good(2, i < 4 ? 20 : 15);
        }
        full.image();
        check.due(12, "settled from 99, not 104", settledFrom(full, 99), true);
        full.back();
        full.good(2, 4);
        full.kind(1, 11);
        full.thank(1);
        full.kind(0, 0);
        full.kind(1, 0);
        check.due(12, "one of 100 keeps it", settledFrom(full, 100), true);
        lastNights();
    }

    /** Whether a night, whose gifts are in house 2, comes out as a settling from that kindness alone. */
    private static boolean settledFrom(ThankedMoves x, int kindness) {
        return x.night(1) == 0 && x.is(3) + x.is(5) == kindness;
    }

    private static void lastNights() {
        ThankedMoves x = new ThankedMoves();
        Check.text(x, "kind 3 at 0;night 20;settle;");
        for (int i = 0; i < 166; i++) {
            x.night(60);
        }
        x.night(30);
        check.due(12, "night(10) beyond 9999", x.night(10), NONE);
        check.due(12, "nothing is done then", x.is(0), 9990);
        check.due(13, "nights that can't all pass", x.played(0), 1);
        check.due(13, "those that can do", x.is(0), 9999);
        check.due(12, "night(1) at 9999", x.night(1), NONE);
        int kindness = x.of(2, 0);
        int drawn = x.is(1);
        check.due(20, "foretold at 9999", x.foretold(5, 0, 2), kindness);
        x.years(0, 1);
        check.due(14, "a night that can't pass", x.is(0), 9999);
        check.due(14, "X anew alone", x.is(1), 23282);
        check.due(15, "undo of years", x.undo(), 29);
        check.due(15, "X", x.is(1), drawn);
        check.due(15, "undo of a night", x.undo(), 28);
        check.due(15, "NIGHT", x.is(0), 9998);
        check.due(12, "night(1) at 9998", x.night(1) != NONE, true);
        check.due(12, "X as before", x.is(1), drawn);
    }

    private static void played() {
        ThankedMoves x = new ThankedMoves();
        check.due(13, "played(0) of no text", x.played(0), -2);
        Check.text(x, "holds 5;person 2;kind 2 at 2;good 1 at 4;gifts 3;thank 2;settle;night 1;");
        for (int wrong : new int[] {1, -1, -2, LOW, HIGH}) {
            check.due(13, "played(" + wrong + ")", x.played(wrong), -2);
        }
        check.due(13, "settled, though it need not be", x.played(0), 6);
        check.due(13, "what was done stays: thanked", x.ofPerson(0), 3);
        check.same(13, "kindness; its own law does not rule", Check.kinds(x), "01011000");
        check.due(13, "good, thank", x.about(3), 2);
        ThankedMoves y = new ThankedMoves();
        Check.text(y, "kind 2 at 2;settle;night 2;person 7;");
        check.due(13, "all is done", y.played(0), NONE);
        check.due(13, "settled, two nights", y.about(3), 3);
        check.due(13, "again", y.played(0), NONE);
        check.due(13, "NIGHT", y.is(0), 4);
        Check.text(y, "person 1;person 2;person 3;person 4;");
        check.due(13, "a sixth person", y.played(1), 3);
        Check.text(y, "holds 1;kind 40 at 4;good 20 at 4;good 20 at 4;good 19 at 4;good 1 at 4;");
        check.due(13, "good beyond 99", y.played(2), 5);
        check.due(13, "99", y.of(4, 0), 99);
        Check.text(y, "kind 1 at 4;thank 4;");
        check.due(13, "thank that can't be", y.played(3), 1);
        check.due(13, "an empty text", Check.street(" ").played(0), NONE);
    }

    private static void years() {
        ThankedMoves x = new ThankedMoves();
        int[][] wrong = {{-1, 1}, {10000, 1}, {0, 0}, {0, 41}, {LOW, 1}, {HIGH, 1}, {0, LOW}, {0, HIGH}};
        for (int[] w : wrong) {
            check.due(14, "years(" + w[0] + ", " + w[1] + ")", x.years(w[0], w[1]), NONE);
        }
        check.due(14, "no step", x.about(3), 0);
        // 347: a night (23282: snow, 7153: house 1, settled); 29328, 20544: 1 good in house 0 each; 1558: a night.
        check.due(14, "years(0, 1)", x.years(0, 1), 1);
        check.same(14, "kindness", Check.kinds(x), "10100000");
        check.due(14, "SNOW", x.is(2), 1);
        check.due(14, "thanked", x.is(4), 1);
        check.due(14, "X", x.is(1), 29328);
        x.back();
        check.due(14, "years(0, 3)", x.years(0, 3), 1);
        check.same(14, "kindness, not settled", Check.kinds(x), "30100000");
        x.back();
        check.due(14, "years(0, 4)", x.years(0, 4), 2);
        check.same(14, "kindness", Check.kinds(x), "11100100");
        check.due(14, "X", x.is(1), 23245);
        check.due(14, "one step", x.about(3), 1);
        x.back();
        // 415: 2 good in house 5; 2336: house 5 is thanked
        check.due(14, "years(34, 1)", x.years(34, 1), 0);
        check.same(14, "2 good", Check.kinds(x), "00000200");
        x.back();
        x.person(5);
        check.due(14, "years(34, 2)", x.years(34, 2), 0);
        check.same(14, "thanked", Check.kinds(x), "00001010");
        check.due(14, "moved", x.ofPerson(0), 6);
        check.due(14, "not by night", x.is(4), 0);
        x.back();
        // 351: settled
        x.kind(0, 2);
        check.due(14, "years(2, 1)", x.years(2, 1), 0);
        check.same(14, "settled", Check.kinds(x), "01000000");
        check.due(14, "years(9999, 40)", x.years(9999, 40) >= 0, true);
        // good beyond 99 is not done
        ThankedMoves y = new ThankedMoves();
        for (int i = 0; i < 5; i++) {
            y.good(5, i < 4 ? 20 : 18);
        }
        y.years(34, 1);
        check.due(14, "98 and 2 can't be", y.of(5, 0), 98);
        check.due(14, "it is a step yet", y.about(3), 6);
    }

    private static void undo() {
        ThankedMoves x = new ThankedMoves();
        check.due(15, "undo() of nothing", x.undo(), NONE);
        x.person(7);
        x.good(7, 3);
        x.night(1);
        x.good(2, 1);
        check.due(15, "undo() of good", x.undo(), 2);
        x.good(2, 1);
        x.settle();
        check.due(15, "undo() of settled", x.undo(), 3);
        check.due(15, "undo()", x.undo(), 2);
        check.due(15, "off yet", x.ofPerson(0), NONE);
        check.due(15, "undo() of a night", x.undo(), 1);
        check.due(15, "in its house again", x.ofPerson(0), 7);
        check.due(15, "BOOK", x.book(NONE, 0), 0);
        check.due(15, "gone", x.is(3), 0);
        check.due(15, "X", x.is(1), 347);
        check.due(15, "NIGHT", x.is(0), 0);
        check.due(15, "thanked last night", x.is(4), 0);
        check.same(15, "kindness", Check.kinds(x), "00000003");
        check.due(15, "undo() of good", x.undo(), 0);
        check.due(15, "undo()", x.undo(), NONE);
        x.years(0, 1);
        check.due(15, "snow", x.is(2), 1);
        check.due(15, "undo() of years", x.undo(), 0);
        check.due(15, "snow", x.is(2), 0);
        x.kind(3, 2);
        x.thank(3);
        check.due(15, "undo() of thank", x.undo(), 0);
        check.same(15, "kindness", Check.kinds(x), "00020000");

        for (int i = 0; i < 33; i++) {
            x.good(i % 4, 1);
        }
        check.due(15, "the latest 30", x.about(3), 30);
        for (int i = 29; i >= 0; i--) {
            check.due(15, "undo()", x.undo(), i);
        }
        check.due(15, "undo()", x.undo(), NONE);
        check.same(15, "three goods stay", Check.kinds(x), "11120000");
        toldSince();
    }

    private static void toldSince() {
        ThankedMoves x = new ThankedMoves();
        x.good(3, 2);
        x.good(1, 2);
        x.kind(3, 7);
        x.person(5);
        x.kind(5, 2);
        x.good(3, 1);
        x.thank(5);
        check.due(15, "moved", x.ofPerson(0), 6);
        check.due(15, "undo()", x.undo(), 3);
        check.due(15, "as told", x.ofPerson(0), 5);
        check.same(15, "as told", Check.kinds(x), "02080200");
        check.due(15, "undo()", x.undo(), 2);
        check.same(15, "as told", Check.kinds(x), "02070200");
        check.due(15, "undo()", x.undo(), 1);
        check.same(15, "told since", Check.kinds(x), "00070200");
        check.due(15, "undo()", x.undo(), 0);
        check.same(15, "told since", Check.kinds(x), "00070200");
        check.due(15, "the person told since", x.ofPerson(0), 5);
        check.due(15, "people", x.about(0), 1);
    }

    private static void of() {
        ThankedMoves x = Check.street("holds here;gifts here+1;", 0, 3, 9, 4);
        x.person(3);
        x.person(0);
        x.person(3);
        int[][] due = {{0, 2, 0, 1, 0}, {3, 0, 1, 2, 1}, {9, 0, 2, 3, 1}, {4, 5, 3, 4, 0}, {0, 0, 4, 5, 0}};
        for (int h = 0; h < due.length; h++) {
            for (int what = 0; what < 5; what++) {
                check.due(16, "of(" + h + ", " + what + ")", x.of(h, what), due[h][what]);
            }
        }
        int[][] wrong = {{0, 5}, {0, -1}, {8, 0}, {-1, 0}, {LOW, 0}, {HIGH, 4}, {0, LOW}, {0, HIGH}};
        for (int[] w : wrong) {
            check.due(16, "of(" + w[0] + ", " + w[1] + ")", x.of(w[0], w[1]), NONE);
        }
        x.by(NONE);
        check.due(16, "gifts without law", x.of(2, 3), 1);
        x.years(0, 1);
        check.due(16, "gifts without law in snow", x.of(2, 3), 2);

        ThankedMoves y = Check.street(null, 0, 0, 0, 0, 0, 0, 0, 2);
        y.person(7);
        check.due(17, "ofPerson(0)", y.ofPerson(0), 7);
        y.thank(7);
        check.due(17, "off", y.ofPerson(0), NONE);
        for (int w : new int[] {1, 5, -1, LOW, HIGH}) {
            check.due(17, "ofPerson(" + w + ")", y.ofPerson(w), -2);
        }
    }

    private static void is() {
        ThankedMoves x = Check.street(null, 4, 0, 0, 0, 0, 0, 0, 2);
        x.years(0, 1);
        check.due(18, "NIGHT", x.is(0), 1);
        check.due(18, "X", x.is(1), 29328);
        check.due(18, "SNOW", x.is(2), 1);
        check.same(18, "42000002 settled", Check.kinds(x), "10110010");
        check.due(18, "gone", x.is(3), 4);
        check.due(18, "all", x.is(5), 4);
        check.due(18, "thanked last night", x.is(4), 8);
        for (int w : new int[] {-1, 6, LOW, HIGH}) {
            check.due(18, "is(" + w + ")", x.is(w), -2);
        }
        x.kind(4, 2);
        x.settle();
        check.due(18, "settled by hand is not by night", x.is(4), 8);
        ThankedMoves calm = new ThankedMoves();
        calm.kind(2, 1);
        calm.night(1);
        check.due(18, "thanked last night", calm.is(4), 1);
        calm.night(1);
        check.due(18, "not thanked last night", calm.is(4), 0);
    }

    private static void book() {
        ThankedMoves x = new ThankedMoves();
        check.due(19, "book(NONE, 0) of nothing", x.book(NONE, 0), 0);
        check.due(19, "book(0, 0) of nothing", x.book(0, 0), -2);
        x.night(1);
        for (int p = 0; p < 5; p++) {
            x.person(0);
        }
        for (int h = 0; h < 6; h++) {
            x.kind(h, 2);
            x.thank(h);
        }
        check.due(19, "30", x.book(NONE, 0), 30);
        check.due(19, "the eldest: PERSON", x.book(0, 1), 0);
        check.due(19, "the eldest: HOUSE", x.book(0, 2), 1);
        x.kind(6, 2);
        x.thank(6);
        x.kind(7, 2);
        x.thank(7);
        check.due(19, "the latest 30", x.book(NONE, 2), 30);
        for (int i = 0; i < 30; i++) {
            check.due(19, "NIGHT", x.book(i, 0), 1);
            check.due(19, "PERSON", x.book(i, 1), i % 5);
            check.due(19, "HOUSE", x.book(i, 2), i < 25 ? 3 + i / 5 : NONE);
        }
        int[][] wrong = {{30, 0}, {-2, 0}, {0, 3}, {0, -1}, {LOW, 0}, {HIGH, 0}, {0, LOW}, {0, HIGH}};
        for (int[] w : wrong) {
            check.due(19, "book(" + w[0] + ", " + w[1] + ")", x.book(w[0], w[1]), -2);
        }
        check.due(50, "travelled() of 6 each", x.travelled(), 0);
        check.due(51, "ledger(4)", x.ledger(4), 6);
        check.due(51, "ledger(NONE)", x.ledger(NONE), 30);
        // What is moved in a night has the number of that night, not of the next one.
        ThankedMoves y = Check.street(null, 0, 0, 1);
        y.person(2);
        y.night(1);
        check.due(19, "NIGHT of a move by night", y.book(0, 0), 0);
    }
}
