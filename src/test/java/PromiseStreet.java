/** The cart, who is beside whom, whose law, and the image: promises 35 to 54. */
final class PromiseStreet {
    private static final int NONE = ThankedMoves.NONE;
    private static final int LOW = Integer.MIN_VALUE;
    private static final int HIGH = Integer.MAX_VALUE;
    private static final int[] WRONG_HOUSES = {-1, 8, LOW, HIGH};
    private static Check check;

    static void run(Check with) {
        check = with;
        need();
        cart();
        people();
        said();
        whose();
        kindness();
        travelled();
        image();
        imageOfTexts();
        about();
    }

    private static void need() {
        ThankedMoves x = new ThankedMoves();
        check.due(38, "sick()", x.sick(), 0);
        check.due(35, "need(0, 0)", x.need(0, 0), true);
        check.due(35, "need(7, 30)", x.need(7, 30), true);
        check.due(38, "sick()", x.sick(), 129);
        int[][] wrong = {{8, 0}, {-1, 0}, {0, 31}, {0, -2}, {LOW, 0}, {HIGH, 0}, {0, LOW}, {0, HIGH}};
        for (int[] w : wrong) {
            check.due(35, "need(" + w[0] + ", " + w[1] + ")", x.need(w[0], w[1]), false);
        }
        check.due(35, "need(3, NONE)", x.need(3, NONE), true);
        check.due(35, "need(0, NONE)", x.need(0, NONE), true);
        check.due(38, "sick()", x.sick(), 128);
        check.due(35, "told again", x.need(7, 2), true);
        check.due(36, "the latest due", x.cart(4), NONE);
        check.due(36, "the latest due", x.cart(5), 2);
        check.due(35, "no step", x.about(3), 0);
    }

    private static void cart() {
        ThankedMoves x = new ThankedMoves();
        check.due(36, "without needs", x.cart(4), 0);
        check.due(37, "without needs", x.round(4, 0), -2);
        x.need(4, 0);
        check.due(36, "where it is", x.cart(4), 0);
        check.due(37, "where it is", x.round(4, 0), 4);
        check.due(36, "too late", x.cart(3), NONE);
        check.due(37, "too late", x.round(3, 0), -2);
        x.need(4, NONE);
        x.need(0, 30);
        x.need(7, 30);
        check.due(36, "the shorter way first", x.cart(3), 10);
        check.due(37, "round", x.round(3, 0), 0);
        check.due(37, "round", x.round(3, 1), 7);
        check.due(37, "round", x.round(3, 2), -2);
        x.need(7, 9);
        check.due(36, "the longer way first, in time", x.cart(3), 11);
        check.due(37, "round", x.round(3, 0), 7);
        x.need(0, 10);
        check.due(36, "it can't", x.cart(3), NONE);
        x.back();
        x.need(2, 30);
        x.need(3, 30);
        x.need(6, 30);
        check.due(36, "both ways are alike", x.cart(4), 6);
        rounds(x, 4, 3, 2, 6);
        x.need(6, 5);
        rounds(x, 4, 6, 3, 2);
        x.need(3, 3);
        check.due(36, "3 by 3, 6 by 5, 2 last", x.cart(4), 8);
        rounds(x, 4, 3, 6, 2);
        x.need(4, 7);
        rounds(x, 4, 4, 3, 6, 2);
        for (int w : WRONG_HOUSES) {
            check.due(36, "cart(" + w + ")", x.cart(w), NONE);
            check.due(37, "round(" + w + ", 0)", x.round(w, 0), -2);
            check.due(37, "round(4, " + w + ")", x.round(4, w), -2);
        }
    }

    private static void rounds(ThankedMoves x, int from, int... due) {
        for (int i = 0; i < due.length; i++) {
            check.due(37, "round(" + from + ", " + i + ")", x.round(from, i), due[i]);
        }
        check.due(37, "no more", x.round(from, due.length), -2);
    }

    private static void people() {
        ThankedMoves x = new ThankedMoves();
        check.due(39, "nobody", x.beside(0), NONE);
        check.due(40, "nobody", x.alone(), 0);
        check.due(41, "nobody", x.spread(), 0);
        check.due(42, "nobody", x.crowded(), NONE);
        check.due(43, "nobody", x.empty(), 255);
        x.person(0);
        check.due(42, "one in house 0", x.crowded(), 0);
        x.person(1);
        check.due(39, "0 and 1", x.beside(1), 1);
        check.due(41, "0 and 1", x.spread(), 1);
        check.due(43, "0 and 1", x.empty(), 252);
        x.back();
        x.person(3);
        check.due(40, "one", x.alone(), 1);
        check.due(41, "one", x.spread(), 0);
        x.person(4);
        check.due(42, "of like ones the lowest", x.crowded(), 3);
        x.person(5);
        x.person(3);
        x.person(7);
        int[] beside = {10, 13, 2, 3, 0};
        for (int p = 0; p < 5; p++) {
            check.due(39, "beside(" + p + ")", x.beside(p), beside[p]);
        }
        for (int w : new int[] {-1, 5, LOW, HIGH}) {
            check.due(39, "beside(" + w + ")", x.beside(w), NONE);
        }
        check.due(40, "alone()", x.alone(), 16);
        check.due(41, "spread()", x.spread(), 4);
        check.due(42, "crowded()", x.crowded(), 3);
        check.due(43, "empty()", x.empty(), 71);
        x.kind(7, 2);
        x.thank(7);
        check.due(39, "off", x.beside(4), 0);
        check.due(40, "off is not alone", x.alone(), 0);
        check.due(41, "off aside", x.spread(), 2);
        check.due(43, "empty()", x.empty(), 199);
        // Two off the street are not beside one another, nor beside one in house 0.
        ThankedMoves y = Check.street(null, 0, 0, 0, 0, 0, 0, 0, 2);
        y.person(7);
        y.person(7);
        y.person(0);
        y.thank(7);
        check.due(39, "off", y.beside(0), 0);
        check.due(39, "in house 0", y.beside(2), 0);
        check.due(40, "alone()", y.alone(), 4);
    }

    private static void said() {
        ThankedMoves x = new ThankedMoves();
        int[][] wrong = {{8, 0}, {-2, 0}, {0, 10}, {0, -1}, {LOW, 0}, {HIGH, 0}, {0, LOW}, {0, HIGH}};
        for (int[] w : wrong) {
            check.due(44, "said(" + w[0] + ", " + w[1] + ")", x.said(w[0], w[1]), -2);
        }
        for (int i = 0; i < 8; i++) {
            check.due(44, "said", x.said(i, i + 2 > 9 ? 9 : i), i + 1);
        }
        check.due(44, "a ninth", x.said(0, 0), -2);
        check.due(44, "said(NONE, 0)", x.said(NONE, 0), 0);
        check.due(44, "none any more", x.about(5), 0);
        check.due(44, "anew", x.said(7, 9), 1);
    }

    private static void whose() {
        ThankedMoves x = new ThankedMoves();
        check.due(45, "no text", x.whose(), 0);
        Check.text(x, "holds 1;");
        Check.text(x, "holds here;");
        Check.text(x, "gifts 2;");
        Check.text(x, "holds kind;");
        check.due(45, "nothing was said", x.whose(), 15);
        x.said(1, 1);
        check.due(45, "1 holds 1", x.whose(), 3);
        x.kind(1, 1);
        check.due(45, "as now", x.whose(), 11);
        x.said(3, 3);
        check.due(45, "and 3 holds 3", x.whose(), 2);
        x.kind(3, 3);
        check.due(45, "as now", x.whose(), 10);
        x.said(NONE, 0);
        x.said(4, 0);
        check.due(45, "without holds it is 0", x.whose(), 12);
        x.by(0);
        check.due(45, "whoever rules", x.whose(), 12);
        x.said(4, 1);
        check.due(45, "nobody's", x.whose(), 0);
    }

    private static void kindness() {
        ThankedMoves x = new ThankedMoves();
        check.due(46, "ready() of nothing", x.ready(), 0);
        check.due(47, "balance() of nothing", x.balance(), 0);
        check.due(48, "middle() of nothing", x.middle(), NONE);
        check.due(49, "kindest() of nothing", x.kindest(), NONE);
        x = Check.street(null, 1, 2, 0, 4, 5, 0, 1, 5);
        check.due(46, "ready()", x.ready(), 154);
        check.due(47, "balance()", x.balance(), -4);
        check.due(48, "middle()", x.middle(), 4);
        check.due(49, "of like ones the lowest", x.kindest(), 4);
        x.kind(0, 5);
        check.due(48, "11 of 22", x.middle(), 3);
        check.due(49, "kindest()", x.kindest(), 0);
        check.due(47, "balance()", x.balance(), 0);
        x.kind(4, 6);
        check.due(48, "11 of 23", x.middle(), 4);
        x.by(Check.text(x, "holds 3;"));
        check.due(46, "ready() under a law", x.ready(), 145);
        ThankedMoves y = Check.street(null, 0, 0, 0, 0, 0, 0, 0, 1);
        check.due(48, "middle()", y.middle(), 7);
        check.due(47, "balance()", y.balance(), -1);
        check.due(49, "kindest()", y.kindest(), 7);
        check.due(49, "kindest()", Check.street(null, 1).kindest(), 0);
        check.due(48, "middle()", Check.street(null, 1, 1).middle(), 0);
    }

    private static void travelled() {
        ThankedMoves x = Check.street(null, 0, 2, 0, 2);
        check.due(50, "nobody", x.travelled(), NONE);
        check.due(51, "ledger(NONE)", x.ledger(NONE), 0);
        x.person(0);
        x.person(3);
        x.person(1);
        check.due(50, "nobody moved", x.travelled(), NONE);
        x.thank(3);
        check.due(50, "travelled()", x.travelled(), 1);
        x.thank(1);
        check.due(50, "of like ones the lowest", x.travelled(), 1);
        x.kind(2, 2);
        x.thank(2);
        check.due(50, "travelled()", x.travelled(), 2);
        int[] ledger = {0, 1, 2};
        for (int p = 0; p < 3; p++) {
            check.due(51, "ledger(" + p + ")", x.ledger(p), ledger[p]);
        }
        check.due(51, "ledger(NONE)", x.ledger(NONE), 3);
        for (int w : new int[] {-2, 3, 5, LOW, HIGH}) {
            check.due(51, "ledger(" + w + ")", x.ledger(w), -2);
        }
    }

    private static void image() {
        ThankedMoves x = Check.street(null, 0, 0, 0, 0, 0, 0, 1, 2);
        x.person(7);
        x.need(2, 9);
        x.said(1, 1);
        x.night(2);
        x.good(4, 7);
        check.due(52, "image()", x.image(), 2);
        String kinds = Check.kinds(x);
        int drawn = x.is(1);
        int gone = x.is(3);
        x.person(1);
        x.kind(0, 9);
        x.need(2, NONE);
        x.need(3, 3);
        x.said(NONE, 0);
        x.night(5);
        x.years(3, 3);
        x.undo();
        check.due(53, "back()", x.back(), 2);
        check.same(53, "KINDNESS", Check.kinds(x), kinds);
        check.due(53, "X", x.is(1), drawn);
        check.due(53, "gone", x.is(3), gone);
        check.due(53, "PEOPLE", x.about(0), 1);
        check.due(53, "NEEDS", x.sick(), 4);
        check.due(53, "a due", x.cart(7), 5);
        check.due(53, "SAID", x.about(5), 1);
        check.due(53, "STEPS", x.about(3), 3);
        check.due(53, "BOOK", x.book(NONE, 0), 1);
        check.due(53, "a step of the image is taken back", x.undo(), 2);
        check.due(53, "good was taken back", x.of(4, 0), 0);
        x.undo();
        x.undo();
        check.due(53, "to its beginning", x.ofPerson(0), 7);
        x.kind(7, 9);
        x.good(7, 9);
        x.back();
        x.undo();
        x.undo();
        x.undo();
        check.due(53, "to its beginning again", x.of(7, 0), 2);
        check.due(53, "THE IMAGE stays", x.back(), 2);
        check.due(53, "STEPS", x.about(3), 3);
        check.due(53, "off again", x.ofPerson(0), NONE);
        x.kind(5, 33);
        x.back();
        x.undo();
        check.due(53, "told behind the image is not in it", x.of(5, 0) == 33, false);
        x.good(5, 3);
        check.due(52, "image() anew", x.image(), 2);
        x.kind(5, 0);
        x.back();
        check.due(53, "back() to the new one", x.of(5, 0) >= 3, true);
    }

    private static void imageOfTexts() {
        ThankedMoves x = new ThankedMoves();
        Check.text(x, "holds 1;");
        x.by(0);
        x.image();
        Check.text(x, "holds 2;");
        x.by(1);
        Check.text(x, "holds");
        Check.tape(x, Check.bytes("settle"));
        x.back();
        check.due(53, "TEXTS", x.about(1), 1);
        check.due(53, "THE TEXT", x.about(2), 0);
        check.due(53, "its law", x.of(0, 2), 1);
        check.due(53, "the tape is not in it", x.about(6), 6);
        check.due(53, "the latest fault is not in it", x.fault(0), 1);
        check.due(53, "its place", x.fault(1), 5);
        check.due(53, "a text that is gone", x.by(1), false);
        check.due(53, "a new one in its place", Check.text(x, "holds 3;"), 1);
        x.by(1);
        check.due(53, "its law", x.of(0, 2), 3);
        x.back();
        check.due(53, "its law", x.of(0, 2), 1);
        x.by(NONE);
        x.back();
        check.due(53, "THE TEXT", x.about(2), 0);
    }

    private static void about() {
        ThankedMoves x = new ThankedMoves();
        x.person(0);
        x.person(1);
        Check.text(x, "");
        Check.text(x, "");
        Check.text(x, "");
        x.by(2);
        for (int i = 0; i < 4; i++) {
            x.good(1, 1);
        }
        x.need(0, 5);
        x.need(4, 5);
        for (int i = 0; i < 6; i++) {
            x.said(1, 1);
        }
        x.feed(0, 0, 0, 0, 0);
        int[] due = {2, 3, 2, 4, 17, 6, 20};
        for (int what = 0; what < due.length; what++) {
            check.due(54, "about(" + what + ")", x.about(what), due[what]);
        }
        for (int w : new int[] {-1, 7, LOW, HIGH}) {
            check.due(54, "about(" + w + ")", x.about(w), -2);
        }
    }
}
