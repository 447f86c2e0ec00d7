/** What comes, waves, who did it and odds: promises 20 to 34. */
final class PromiseAsks {
    private static final int NONE = ThankedMoves.NONE;
    private static final int LOW = Integer.MIN_VALUE;
    private static final int HIGH = Integer.MAX_VALUE;
    private static final int[] WRONG_HOUSES = {-1, 8, LOW, HIGH};
    private static Check check;

    static void run(Check with) {
        check = with;
        foretold();
        rest();
        waves();
        until();
        mover();
        again();
        period();
        least();
        meet();
        doers();
        likely();
        off();
        beyondNinetyNine();
        nothingChanges();
    }

    private static ThankedMoves ones() {
        return Check.street(null, 1, 1, 1, 1, 1, 1, 1, 1);
    }

    private static void foretold() {
        ThankedMoves x = new ThankedMoves();
        check.due(20, "foretold(1, 0, 2)", x.foretold(1, 0, 2), 1);
        check.due(20, "foretold(1, 0, 0)", x.foretold(1, 0, 0), 0);
        check.due(20, "foretold(2, 0, 0)", x.foretold(2, 0, 0), 1);
        check.due(20, "foretold(3, 0, 6)", x.foretold(3, 0, 6), 1);
        check.due(20, "nobody", x.foretold(1, 1, 0), -2);
        x.kind(2, 1);
        x.person(2);
        check.due(20, "foretold(1, 1, 0)", x.foretold(1, 1, 0), 3);
        check.due(20, "foretold(60, 1, 0)", x.foretold(60, 1, 0), NONE);
        int[][] wrong = {{0, 0, 0}, {61, 0, 0}, {-1, 0, 0}, {LOW, 0, 0}, {HIGH, 0, 0}, {1, 2, 0}, {1, -1, 0}, {1, 0, 8},
            {1, 0, -1}, {1, 1, 1}, {1, 1, -1}, {1, 1, HIGH}, {1, LOW, 0}};
        for (int[] w : wrong) {
            check.due(20, "foretold(" + w[0] + ", " + w[1] + ", " + w[2] + ")", x.foretold(w[0], w[1], w[2]), -2);
        }
        check.due(20, "nothing is changed", x.is(1), 347);
        check.due(20, "nothing is changed", x.ofPerson(0), 2);
    }

    private static void rest() {
        ThankedMoves x = Check.street(null, 4, 2, 0, 0, 0, 0, 0, 2);
        int[] kinds = {1, 0, 1, 1, 0, 0, 1, 0};
        int[] times = {3, 3, 1, 0, 0, 0, 0, 1};
        for (int h = 0; h < 8; h++) {
            check.due(21, "rest(" + h + ", 0)", x.rest(h, 0), kinds[h]);
            check.due(21, "rest(" + h + ", 1)", x.rest(h, 1), times[h]);
        }
        for (int w : WRONG_HOUSES) {
            check.due(21, "rest(" + w + ", 0)", x.rest(w, 0), NONE);
            check.due(21, "rest(0, " + w + ")", x.rest(0, w), NONE);
        }
        check.due(21, "rest(0, 2)", x.rest(0, 2), NONE);
        ThankedMoves y = ones();
        check.due(21, "as it is", y.rest(3, 0), 1);
        check.due(21, "not thanked", y.rest(3, 1), 0);
    }

    private static void waves() {
        ThankedMoves x = ones();
        int[] waves = {8, 14, 18, 20, 20, 18, 14, 8};
        for (int h = 0; h < 8; h++) {
            check.due(22, "wave(" + h + ")", x.wave(h), waves[h]);
            check.due(24, "reached(" + h + ")", x.reached(h), 255);
        }
        check.due(23, "greatest(false)", x.greatest(false), 20);
        check.due(23, "greatest(true)", x.greatest(true), 3);
        check.due(25, "waves(0, 7)", x.waves(0, 7), 8);
        check.due(25, "waves(7, 0)", x.waves(7, 0), 8);
        x.kind(4, 0);
        check.due(22, "wave(4)", x.wave(4), 0);
        check.due(22, "wave(3)", x.wave(3), 4);
        check.due(24, "reached(3)", x.reached(3), 15);
        check.due(24, "reached(4)", x.reached(4), 0);
        check.due(24, "reached(5)", x.reached(5), 224);
        check.due(23, "greatest(false)", x.greatest(false), 6);
        check.due(23, "greatest(true)", x.greatest(true), 1);
        check.due(25, "waves(4, 5) as all ones and 5", x.waves(4, 5), 18);
        check.due(25, "unlike ones alone", x.waves(3, 3), NONE);
        for (int w : WRONG_HOUSES) {
            check.due(22, "wave(" + w + ")", x.wave(w), NONE);
            check.due(24, "reached(" + w + ")", x.reached(w), NONE);
            check.due(25, "waves(0, " + w + ")", x.waves(0, w), NONE);
            check.due(25, "waves(" + w + ", 0)", x.waves(w, 0), NONE);
        }
        // A wave is of the street at rest, not as it is: 2 in house 5 are 1 in 4 and 6.
        ThankedMoves y = Check.street(null, 0, 0, 0, 0, 0, 2);
        check.due(22, "wave(4) at rest", y.wave(4), 1);
        check.due(22, "wave(5) at rest", y.wave(5), 0);
        check.due(25, "waves(4, 5) at rest", y.waves(4, 5), 3);
        ThankedMoves z = Check.street("holds 3;", 4, 3);
        check.due(22, "wave under a law", z.wave(0), 1);
        check.due(22, "wave under a law", z.wave(1), 0);
        check.due(25, "waves under a law", z.waves(0, 1), 2);
        check.due(23, "of nothing", new ThankedMoves().greatest(true), 0);
    }

    private static void until() {
        ThankedMoves x = new ThankedMoves();
        check.due(26, "until(0, 0)", x.until(0, 0), 2);
        check.due(26, "until(0, 7)", x.until(0, 7), 37);
        check.due(26, "until(7, 0)", x.until(7, 0), 37);
        check.due(26, "until(3, 2)", x.until(3, 2), 4);
        check.due(26, "all ones", ones().until(2, 7), 1);
        check.due(26, "not in 100", Check.street("holds 9;").until(0, 7), NONE);
        check.due(26, "in 100", Check.street("holds if here=3 then 6 else 3 end;").until(7, 2), 100);
        check.due(26, "in 101", Check.street("holds if here<4 then 5 else 6 end;").until(7, 3), NONE);
        for (int w : WRONG_HOUSES) {
            check.due(26, "until(0, " + w + ")", x.until(0, w), NONE);
            check.due(26, "until(" + w + ", 0)", x.until(w, 0), NONE);
        }
    }

    private static void mover() {
        ThankedMoves x = Check.street(null, 0, 0, 0, 1, 0, 1);
        check.due(27, "nobody moves", x.mover(false), 0);
        check.due(27, "the lowest", x.mover(true), 0);
        x.person(3);
        check.due(27, "one moves", x.mover(false), 1);
        check.due(27, "by house 3", x.mover(true), 3);
        x.person(5);
        check.due(27, "of like ones the lowest", x.mover(true), 3);
        x.person(5);
        check.due(27, "two move", x.mover(false), 2);
        check.due(27, "by house 5", x.mover(true), 5);
        ThankedMoves y = Check.street(null, 0, 0, 0, 0, 0, 0, 0, 1);
        y.person(7);
        check.due(27, "off is a move", y.mover(false), 1);
        check.due(27, "by house 7", y.mover(true), 7);
        y.kind(7, 2);
        check.due(27, "at rest it is off", y.mover(false), 0);
    }

    private static void again() {
        check.due(28, "of nothing", new ThankedMoves().again(), false);
        ThankedMoves x = ones();
        check.due(28, "all ones", x.again(), true);
        x.kind(3, 0);
        check.due(28, "one without", x.again(), true);
        x.kind(5, 0);
        check.due(28, "two without", x.again(), false);
        check.due(28, "not as it is but at rest", Check.street(null, 2, 1, 1, 1, 1, 1, 1, 1).again(), true);
    }

    private static void period() {
        ThankedMoves x = new ThankedMoves();
        check.due(29, "period(0, true)", x.period(0, true), 28);
        check.due(29, "period(0, false)", x.period(0, false), 9);
        ThankedMoves y = ones();
        check.due(29, "from none done on", y.period(0, true), 0);
        check.due(29, "how long", y.period(0, false), 9);
        check.due(29, "from none done on", y.period(2, true), 0);
        check.due(29, "how long", y.period(2, false), 3);
        ThankedMoves z = Check.street("holds 9;");
        check.due(29, "not in 100", z.period(0, true), NONE);
        check.due(29, "not in 100", z.period(0, false), NONE);
        ThankedMoves hundred = Check.street("holds if here<2 then 6 else 3 end;");
        check.due(29, "91 and 9", hundred.period(6, true), 91);
        check.due(29, "91 and 9", hundred.period(6, false), 9);
        check.due(29, "92 and 9", Check.street("holds over 9 of here;").period(1, true), NONE);
        for (int w : WRONG_HOUSES) {
            check.due(29, "period(" + w + ", true)", x.period(w, true), NONE);
            check.due(29, "period(" + w + ", false)", x.period(w, false), NONE);
        }
    }

    private static void least() {
        ThankedMoves x = new ThankedMoves();
        check.due(30, "nobody", x.least(0, false), NONE);
        x.person(7);
        check.due(30, "least(0, false)", x.least(0, false), 2);
        check.due(30, "least(0, true)", x.least(0, true), 7);
        x.kind(6, 1);
        x.kind(7, 1);
        check.due(30, "1 by 6 or 7", x.least(0, false), 1);
        check.due(30, "of like ones the lowest", x.least(0, true), 6);
        x.kind(7, 2);
        check.due(30, "settled alone", x.least(0, false), 0);
        check.due(30, "0, if none is needed", x.least(0, true), 0);
        x.thank(7);
        check.due(30, "off already", x.least(0, false), 0);
        for (int w : new int[] {-1, 1, 5, LOW, HIGH}) {
            check.due(30, "least(" + w + ", false)", x.least(w, false), NONE);
            check.due(30, "least(" + w + ", true)", x.least(w, true), NONE);
        }
        ThankedMoves y = Check.street("holds 9;");
        y.person(7);
        check.due(30, "least under a law", y.least(0, false), 11);
        y.person(0);
        check.due(30, "none by 20", y.least(1, false), NONE);
        check.due(30, "none by 20", y.least(1, true), NONE);
        ThankedMoves twenty = Check.street("holds 8;", 1, 0, 3, 2, 3, 3, 3, 2);
        twenty.person(6);
        check.due(30, "by 20", twenty.least(0, false), 20);
        check.due(30, "by 20", twenty.least(0, true), 6);
        twenty.by(Check.text(twenty, "holds 9;"));
        check.due(30, "not by 20", twenty.least(0, false), NONE);
        ThankedMoves rich = Check.street("holds 3;", 0, 0, 1, 2, 1, 1, 1, 2);
        Check.enrich(rich, 0, 99);
        rich.person(4);
        check.due(30, "1, and not beyond 99", rich.least(0, false), 1);
        check.due(30, "house 1, as 0 has 99", rich.least(0, true), 1);
    }

    private static void meet() {
        ThankedMoves x = Check.street(null, 0, 0, 2, 1);
        x.person(2);
        x.person(3);
        x.person(0);
        check.due(31, "by any house, as it is settled then", x.meet(0, 1, NONE), 1);
        check.due(31, "the lowest", x.meet(0, 1, 0), 0);
        check.due(31, "there is one alone", x.meet(0, 1, 1), -2);
        check.due(31, "by three", x.meet(2, 0, NONE), 3);
        check.due(31, "the first", x.meet(0, 2, 0), 0);
        check.due(31, "the second", x.meet(0, 2, 1), 0);
        check.due(31, "the third", x.meet(0, 2, 2), 3);
        check.due(31, "a fourth", x.meet(0, 2, 3), -2);
        int[][] wrong = {{0, 0, NONE}, {0, 3, NONE}, {3, 0, NONE}, {-1, 0, NONE}, {0, -1, NONE}, {0, 1, -2}, {0, 1, LOW},
            {0, 1, HIGH}, {LOW, 0, 0}, {0, HIGH, 0}};
        for (int[] w : wrong) {
            check.due(31, "meet(" + w[0] + ", " + w[1] + ", " + w[2] + ")", x.meet(w[0], w[1], w[2]), -2);
        }
        x.person(2);
        check.due(31, "as it is now, not settled", x.meet(0, 3, NONE), 0);
        check.due(31, "there is none such", x.meet(0, 3, 0), -2);
        ThankedMoves y = Check.street(null, 0, 0, 0, 0, 0, 0, 0, 2);
        y.person(7);
        y.person(7);
        y.thank(7);
        check.due(31, "off the street is no house", y.meet(0, 1, NONE), -2);
        ThankedMoves z = Check.street("holds 9;");
        z.person(0);
        z.person(4);
        check.due(31, "none", z.meet(0, 1, NONE), -2);
    }

    private static void doers() {
        ThankedMoves x = new ThankedMoves();
        check.due(32, "nothing was done", x.doers(false), 0);
        check.due(32, "nothing was done", x.doers(true), NONE);
        x.good(3, 1);
        check.due(32, "one", x.doers(false), 1);
        check.due(32, "house 3", x.doers(true), 3);
        x.good(5, 1);
        check.due(32, "3 5, 4 4, 5 3", x.doers(false), 3);
        check.due(32, "3 5", x.doers(true), 45);
        x.back();
        x.good(1, 1);
        check.due(32, "1 or 0 0", x.doers(false), 2);
        check.due(32, "of one house first", x.doers(true), 1);
        x.image();
        check.due(32, "from the new image on", x.doers(true), NONE);
        // The image's kindness alone is taken: the law is that of now.
        x.by(Check.text(x, "holds 1;"));
        x.good(1, 1);
        check.due(32, "by the law of now", x.doers(true), 1);
        x.by(NONE);
        check.due(32, "without it", x.doers(true), NONE);
        ThankedMoves y = Check.street("holds night+people;");
        y.night(1);
        y.person(3);
        y.kind(2, 0);
        y.kind(3, 2);
        check.due(32, "in the night of now, with the people of now", y.doers(true), 43);
        ThankedMoves z = new ThankedMoves();
        Check.enrich(z, 3, 98);
        z.image();
        z.good(3, 1);
        z.settle();
        check.due(32, "good to 99", z.doers(true), 3);
    }

    private static void likely() {
        ThankedMoves x = Check.street(null, 0, 0, 0, 1);
        check.due(33, "nobody", x.likely(0, 1, false), NONE);
        x.person(3);
        check.due(33, "1 of 8", x.likely(0, 1, false), 1);
        check.due(33, "1 of 8", x.likely(0, 1, true), 8);
        check.due(33, "17 of 64", x.likely(0, 2, false), 17);
        check.due(33, "17 of 64", x.likely(0, 2, true), 64);
        int[][] wrong = {{0, 0}, {0, 4}, {1, 1}, {-1, 1}, {LOW, 1}, {HIGH, 1}, {0, LOW}, {0, HIGH}};
        for (int[] w : wrong) {
            check.due(33, "likely(" + w[0] + ", " + w[1] + ", false)", x.likely(w[0], w[1], false), NONE);
            check.due(33, "likely(" + w[0] + ", " + w[1] + ", true)", x.likely(w[0], w[1], true), NONE);
        }
        x.kind(3, 2);
        check.due(33, "always", x.likely(0, 3, false), 1);
        check.due(33, "always", x.likely(0, 3, true), 1);
        x.kind(3, 0);
        check.due(33, "never by one", x.likely(0, 1, false), 0);
        check.due(33, "never: 0 of 1", x.likely(0, 1, true), 1);
        check.due(33, "3 twice", x.likely(0, 2, false), 1);
        check.due(33, "3 twice", x.likely(0, 2, true), 64);
        ThankedMoves y = Check.street(null, 0, 0, 0, 0, 0, 0, 0, 2);
        y.person(7);
        check.due(33, "off is another", y.likely(0, 1, false), 1);
        y.thank(7);
        check.due(33, "off stays off", y.likely(0, 1, false), 0);
        ThankedMoves z = Check.street("holds if people>0 then 3 else 9 end;", 0, 1, 0, 2, 0, 1, 0, 0);
        Check.enrich(z, 2, 98);
        z.person(7);
        check.due(33, "3 of 4, with good to 99", z.likely(0, 1, false), 3);
        check.due(33, "3 of 4, with good to 99", z.likely(0, 1, true), 4);
    }

    private static void off() {
        ThankedMoves x = new ThankedMoves();
        check.due(34, "nobody is there", x.off(1, false), 1);
        check.due(34, "nobody is there", x.off(3, true), 1);
        x.kind(7, 1);
        x.person(7);
        check.due(34, "1 of 8", x.off(1, false), 1);
        check.due(34, "1 of 8", x.off(1, true), 8);
        // 7 first, 7 second, or 6 twice
        check.due(34, "16 of 64", x.off(2, false), 1);
        check.due(34, "16 of 64", x.off(2, true), 4);
        x.person(0);
        check.due(34, "another stays", x.off(1, false), 0);
        check.due(34, "another stays", x.off(1, true), 1);
        for (int w : new int[] {0, 4, -1, LOW, HIGH}) {
            check.due(34, "off(" + w + ", false)", x.off(w, false), NONE);
            check.due(34, "off(" + w + ", true)", x.off(w, true), NONE);
        }
    }

    /** Where all houses have 99, no good can be done, but what is there is settled. */
    private static void beyondNinetyNine() {
        ThankedMoves x = new ThankedMoves();
        for (int h = 0; h < 8; h++) {
            Check.enrich(x, h, 99);
        }
        x.person(0);
        x.person(7);
        x.image();
        check.due(31, "no good, no meeting", x.meet(0, 1, NONE), -2);
        check.due(33, "settled without good", x.likely(0, 1, false), 1);
        check.due(33, "settled without good", x.likely(0, 1, true), 1);
        check.due(34, "settled without good", x.off(3, false), 1);
        check.due(30, "settled without good", x.least(0, false), 0);
        x.settle();
        check.due(32, "by no good from 99 on", x.doers(false), 0);
    }

    private static void nothingChanges() {
        ThankedMoves x = Check.street(null, 1, 2, 3, 0, 0, 0, 1, 2);
        x.person(2);
        x.person(7);
        x.rest(0, 0);
        x.greatest(true);
        x.waves(1, 2);
        x.until(0, 7);
        x.mover(true);
        x.again();
        x.period(3, true);
        x.least(0, false);
        x.meet(0, 1, 0);
        x.doers(true);
        x.likely(0, 3, true);
        x.off(3, true);
        x.foretold(9, 0, 0);
        check.same(20, "what is asked changes nothing", Check.kinds(x), "12300012");
        check.due(20, "what is asked changes nothing", x.ofPerson(0), 2);
        check.due(20, "what is asked changes nothing", x.is(3), 0);
        check.due(20, "what is asked changes nothing", x.about(3), 0);
        check.due(20, "what is asked changes nothing", x.book(NONE, 0), 0);
        check.due(20, "what is asked changes nothing", x.is(1), 347);
    }
}
