/** Boundary cases that the parts III to V name: what comes, the cart, who is where, years, the image. */
final class EdgesParts {
    private static final int NONE = ThankedMoves.NONE;
    private final Edges e;

    EdgesParts(Edges edges) {
        e = edges;
    }

    void run() {
        e.at("III");
        foretold();
        rest();
        waves();
        until();
        mover();
        again();
        period();
        least();
        meeting();
        doers();
        e.at("IV");
        likely();
        cart();
        people();
        laws();
        kindness();
        travelled();
        e.at("V");
        years();
        image();
        e.at("The constants");
        e.says("`NONE = -1`: None.");
        e.test("its value", () -> e.due("NONE", ThankedMoves.NONE, -1));
    }

    /** A street where every house has 1. */
    static ThankedMoves ones() {
        return Check.street(null, 1, 1, 1, 1, 1, 1, 1, 1);
    }

    /** A street under a law where one house has much and the others have the kindness given. */
    static ThankedMoves rich(String law, int house, int much, int... kinds) {
        ThankedMoves x = Check.street(law, kinds);
        Check.enrich(x, house, much);
        return x;
    }

    private void foretold() {
        e.says("All that follows changes nothing but what is told.");
        e.test("every question on one street", () -> {
            ThankedMoves x = Check.street(null, 1, 2, 3, 0, 0, 0, 1, 2);
            x.person(2);
            x.person(7);
            x.night(1);
            x.kind(2, 5);
            x.need(3, 9);
            x.said(1, 1);
            String before = Edges.state(x);
            askAll(x);
            e.same("all", Edges.state(x), before);
            e.due("the steps are as they were", x.undo(), 0);
            e.due("ofPerson(1)", x.ofPerson(1), 7);
        });
        e.says("FORETOLD behind n NIGHTS (1 .. 60; those that can pass), nothing else being done.");
        e.test("1", () -> {
            ThankedMoves x = new ThankedMoves();
            e.due("foretold(1, 0, 2)", x.foretold(1, 0, 2), 1);
            e.due("foretold(1, 0, 0)", x.foretold(1, 0, 0), 0);
        });
        e.test("60", () -> {
            ThankedMoves x = Check.street(null, 1, 0, 1);
            x.person(2);
            int[] told = new int[8];
            for (int h = 0; h < 8; h++) {
                told[h] = x.foretold(60, 0, h);
            }
            int home = x.foretold(60, 1, 0);
            x.night(60);
            for (int h = 0; h < 8; h++) {
                e.due("foretold(60, 0, " + h + ")", told[h], x.of(h, 0));
            }
            e.due("foretold(60, 1, 0)", home, x.ofPerson(0));
        });
        e.test("0 and 61", () -> {
            ThankedMoves x = new ThankedMoves();
            e.due("foretold(0, 0, 2)", x.foretold(0, 0, 2), -2);
            e.due("foretold(61, 0, 2)", x.foretold(61, 0, 2), -2);
        });
        e.test("in NIGHT 9998 one passes of many", () -> {
            ThankedMoves x = Edges.inNight(9998);
            int[] told = new int[8];
            for (int h = 0; h < 8; h++) {
                told[h] = x.foretold(60, 0, h);
            }
            x.night(1);
            for (int h = 0; h < 8; h++) {
                e.due("foretold(60, 0, " + h + ")", told[h], x.of(h, 0));
            }
        });
        e.test("in NIGHT 9999 none passes: it is not even settled", () -> {
            ThankedMoves x = Edges.inNight(9999);
            x.kind(0, 5);
            x.person(0);
            e.due("foretold(1, 0, 0)", x.foretold(1, 0, 0), 5);
            e.due("foretold(60, 1, 0)", x.foretold(60, 1, 0), 0);
        });
    }

    private static void askAll(ThankedMoves x) {
        x.foretold(60, 0, 0);
        x.rest(0, 0);
        x.wave(3);
        x.greatest(true);
        x.reached(3);
        x.waves(1, 2);
        x.until(0, 7);
        x.mover(true);
        x.again();
        x.period(3, true);
        x.least(0, false);
        x.meet(0, 1, 0);
        x.doers(true);
        x.likely(0, 3, true);
        x.off(3, true);
        x.cart(0);
        x.round(0, 0);
        x.whose();
        x.ready();
        x.played(0);
        x.ledger(NONE);
    }

    private void rest() {
        e.says("AT REST: as if it were SETTLED now (as it is, if it need not be).");
        e.test("settled", () -> {
            ThankedMoves x = Check.street(null, 0, 0, 2, 1);
            int[] due = {0, 1, 1, 0, 1, 0, 0, 0};
            for (int h = 0; h < 8; h++) {
                e.due("rest(" + h + ", 0)", x.rest(h, 0), due[h]);
            }
            e.same("it is not settled by that", Check.kinds(x), "00210000");
        });
        e.test("as it is", () -> {
            ThankedMoves x = ones();
            for (int h = 0; h < 8; h++) {
                e.due("rest(" + h + ", 0)", x.rest(h, 0), 1);
                e.due("rest(" + h + ", 1)", x.rest(h, 1), 0);
            }
        });
        e.test("of all houses with 99", () -> {
            ThankedMoves x = new ThankedMoves();
            for (int h = 0; h < 8; h++) {
                Check.enrich(x, h, 99);
            }
            int times = 0;
            for (int h = 0; h < 8; h++) {
                times += x.rest(h, 1);
            }
            e.due("as often as by settle()", times, x.settle());
        });
    }

    private void waves() {
        e.says("A WAVE of a HOUSE: 1 GOOD being done there AT REST, how many times it is THANKED till it is at rest again.");
        e.test("none", () -> e.due("wave(0)", new ThankedMoves().wave(0), 0));
        e.test("of each house, from 0 to 7", () -> {
            ThankedMoves x = ones();
            int[] due = {8, 14, 18, 20, 20, 18, 14, 8};
            for (int h = 0; h < 8; h++) {
                e.due("wave(" + h + ")", x.wave(h), due[h]);
            }
        });
        e.test("one below what can be, and so much", () -> {
            ThankedMoves x = Check.street("holds 3;", 3, 0, 0, 4);
            e.due("wave(0)", x.wave(0), 0);
            e.due("wave(3)", x.wave(3), 1);
        });
        e.test("at rest, not as it is", () -> {
            ThankedMoves x = Check.street(null, 0, 0, 0, 0, 0, 2);
            e.due("wave(5)", x.wave(5), 0);
            e.due("wave(4)", x.wave(4), 1);
        });
        e.test("from 99", () -> {
            ThankedMoves x = rich(null, 3, 99);
            ThankedMoves y = rich(null, 3, 99);
            y.settle();
            for (int h = 0; h < 8; h++) {
                e.due("wave(" + h + ") as behind settle()", x.wave(h), y.wave(h));
            }
        });
        e.says("GREATEST: of WAVES of all HOUSES; of like ones the lowest HOUSE.");
        e.test("of 20 by 3 and by 4", () -> {
            e.due("greatest(false)", ones().greatest(false), 20);
            e.due("greatest(true)", ones().greatest(true), 3);
        });
        e.test("of none by any", () -> {
            e.due("greatest(false)", new ThankedMoves().greatest(false), 0);
            e.due("greatest(true)", new ThankedMoves().greatest(true), 0);
        });
        e.test("by 0, and by 7 alone", () -> {
            e.due("greatest(true)", Check.street(null, 1).greatest(true), 0);
            e.due("greatest(true)", Check.street(null, 0, 0, 0, 0, 0, 0, 0, 1).greatest(true), 7);
        });
        e.says("REACHED: HOUSES (bits) that are THANKED in a WAVE.");
        e.test("none", () -> e.due("reached(3)", new ThankedMoves().reached(3), 0));
        e.test("all", () -> e.due("reached(0)", ones().reached(0), 255));
        e.test("0 alone, and 7 alone", () -> {
            e.due("reached(0)", Check.street(null, 1).reached(0), 1);
            e.due("reached(7)", Check.street(null, 0, 0, 0, 0, 0, 0, 0, 1).reached(7), 128);
        });
        e.test("up to a house with none", () -> {
            ThankedMoves x = ones();
            x.kind(4, 0);
            e.due("reached(3)", x.reached(3), 15);
            e.due("reached(5)", x.reached(5), 224);
        });
        e.says("WAVES of two unlike HOUSES: likewise, 1 GOOD being done in each at once.");
        e.test("like ones", () -> e.due("waves(3, 3)", ones().waves(3, 3), NONE));
        e.test("0 and 7", () -> {
            e.due("waves(0, 7)", ones().waves(0, 7), 8);
            e.due("waves(7, 0)", ones().waves(7, 0), 8);
        });
        e.test("neither alone would", () -> {
            // 1 in house 2 holds 9 until house 3 has something too
            ThankedMoves x = Check.street("holds if here=2 and right=0 then 9 else 0 end;", 0, 0, 1);
            e.due("wave(2)", x.wave(2), 0);
            e.due("wave(3)", x.wave(3), 0);
            e.due("waves(2, 3)", x.waves(2, 3), 2);
        });
        e.test("at once, not one behind the other", () -> {
            // house 0 is thanked once if 1 has none then, but holds 9 when both are done at once
            ThankedMoves x = Check.street("holds if here=0 and right>0 then 9 else 0 end;", 1);
            e.due("wave(0)", x.wave(0), 1);
            e.due("waves(0, 1)", x.waves(0, 1), 0);
        });
    }

    private void until() {
        e.says("UNTIL: how many times 1 GOOD is done in a HOUSE AT REST, SETTLED each time, till a HOUSE (it or another one) is THANKED (100 at most).");
        e.test("1, of the house and of another", () -> {
            e.due("until(3, 3)", ones().until(3, 3), 1);
            e.due("until(0, 7)", ones().until(0, 7), 1);
        });
        e.test("2", () -> e.due("until(3, 3)", new ThankedMoves().until(3, 3), 2));
        e.test("from end to end", () -> {
            e.due("until(0, 7)", new ThankedMoves().until(0, 7), 37);
            e.due("until(7, 0)", new ThankedMoves().until(7, 0), 37);
        });
        e.test("100", () -> {
            e.due("until(7, 2)", Check.street("holds if here=3 then 6 else 3 end;").until(7, 2), 100);
        });
        e.test("101", () -> {
            e.due("until(7, 3)", Check.street("holds if here<4 then 5 else 6 end;").until(7, 3), NONE);
        });
        e.test("thanked on the way to rest is not yet", () -> {
            e.due("until(3, 3)", Check.street(null, 0, 0, 0, 2).until(3, 3), 2);
        });
        e.test("never", () -> e.due("until(0, 7)", Check.street("holds 9;").until(0, 7), NONE));
    }

    private void mover() {
        e.says("MOVER: the HOUSE whose WAVE moves PEOPLE most often; of like ones the lowest.");
        e.test("nobody there", () -> {
            e.due("mover(true)", ones().mover(true), 0);
            e.due("mover(false)", ones().mover(false), 0);
        });
        e.test("nobody moves", () -> {
            ThankedMoves x = new ThankedMoves();
            x.person(5);
            e.due("mover(true)", x.mover(true), 0);
            e.due("mover(false)", x.mover(false), 0);
        });
        e.test("of like ones the lowest", () -> {
            ThankedMoves x = Check.street(null, 0, 0, 0, 1, 0, 1);
            x.person(5);
            x.person(3);
            e.due("mover(true)", x.mover(true), 3);
            e.due("mover(false)", x.mover(false), 1);
        });
        e.test("7 alone: off is a move", () -> {
            ThankedMoves x = Check.street(null, 0, 0, 0, 0, 0, 0, 0, 1);
            x.person(7);
            e.due("mover(true)", x.mover(true), 7);
            e.due("mover(false)", x.mover(false), 1);
        });
        e.test("who is off does not move", () -> {
            ThankedMoves x = Check.street(null, 0, 0, 0, 0, 0, 0, 0, 2);
            x.person(7);
            x.thank(7);
            x.kind(7, 1);
            e.due("mover(false)", x.mover(false), 0);
        });
        e.test("one that is off at rest does not move", () -> {
            ThankedMoves x = Check.street(null, 0, 0, 0, 0, 0, 0, 1, 2);
            x.person(7);
            e.due("mover(false)", x.mover(false), 0);
        });
        e.test("one person that moves often", () -> {
            ThankedMoves x = ones();
            x.person(0);
            e.due("mover(false): from 0 off", x.mover(false), 8);
        });
    }

    private void again() {
        e.says("AGAIN: 1 GOOD being done in HOUSE 0 and in HOUSE 7 AT REST, and SETTLED, KINDNESS of all HOUSES is as it was AT REST.");
        e.test("all have 1", () -> e.due("again()", ones().again(), true));
        e.test("all but one", () -> {
            ThankedMoves x = ones();
            x.kind(0, 0);
            e.due("without 0", x.again(), true);
            x.kind(0, 1);
            x.kind(7, 0);
            e.due("without 7", x.again(), true);
            x.kind(0, 0);
            e.due("without both", x.again(), false);
        });
        e.test("none has", () -> e.due("again()", new ThankedMoves().again(), false));
        e.test("as AT REST, not as it is", () -> {
            e.due("again()", Check.street(null, 2, 1, 1, 1, 1, 1, 1, 1).again(), true);
        });
    }

    private void period() {
        e.says("A PERIOD of a HOUSE: 1 GOOD being done there AT REST, and SETTLED, again and again (100 at most): the first time that KINDNESS of all HOUSES is as it was at some time ahead (none done, too): behind how many that was, and how many more brought it back.");
        e.test("as with none done", () -> {
            e.due("period(0, true)", ones().period(0, true), 0);
            e.due("period(0, false)", ones().period(0, false), 9);
            e.due("period(2, false)", ones().period(2, false), 3);
        });
        e.test("behind some", () -> {
            e.due("period(7, true)", new ThankedMoves().period(7, true), 28);
            e.due("period(7, false)", new ThankedMoves().period(7, false), 9);
        });
        e.test("by the 100th", () -> {
            ThankedMoves x = Check.street("holds if here<2 then 6 else 3 end;");
            e.due("period(6, true)", x.period(6, true), 91);
            e.due("period(6, false)", x.period(6, false), 9);
        });
        e.test("by the 101st", () -> {
            ThankedMoves x = Check.street("holds over 9 of here;");
            e.due("period(1, true)", x.period(1, true), NONE);
            e.due("period(1, false)", x.period(1, false), NONE);
        });
        e.test("none in 100", () -> e.due("period(0, false)", Check.street("holds 9;").period(0, false), NONE));
        e.test("none done is AT REST, not as it is", () -> {
            ThankedMoves x = Check.street(null, 2, 1, 1, 1, 1, 1, 1, 1);
            e.due("period(0, true)", x.period(0, true), 0);
        });
    }

    private void least() {
        e.says("LEAST to go off: the fewest GOOD (0 .. 20) that, done at once in one HOUSE (not beyond 99), and SETTLED, bring a PERSON off the street; of like ones the lowest HOUSE (0, if none is needed).");
        e.test("0: off already", () -> {
            ThankedMoves x = Check.street(null, 0, 0, 0, 0, 0, 0, 0, 2);
            x.person(7);
            x.thank(7);
            e.due("least(0, false)", x.least(0, false), 0);
            e.due("least(0, true)", x.least(0, true), 0);
        });
        e.test("0: settled it goes off", () -> {
            ThankedMoves x = Check.street(null, 0, 0, 0, 0, 0, 0, 0, 2);
            x.person(7);
            e.due("least(0, false)", x.least(0, false), 0);
            e.due("least(0, true)", x.least(0, true), 0);
        });
        e.test("0 where house 0 has more than 99", () -> {
            ThankedMoves x = rich(null, 0, 99, 0, 2);
            x.thank(1);
            e.due("of(0, 0)", x.of(0, 0), 100);
            x.kind(7, 2);
            x.person(7);
            e.due("least(0, false)", x.least(0, false), 0);
            e.due("least(0, true)", x.least(0, true), 0);
        });
        e.test("1, of like ones the lowest", () -> {
            ThankedMoves x = ones();
            x.person(7);
            e.due("least(0, false)", x.least(0, false), 1);
            e.due("least(0, true)", x.least(0, true), 0);
        });
        e.test("2, done at once", () -> {
            ThankedMoves x = new ThankedMoves();
            x.person(7);
            e.due("least(0, false)", x.least(0, false), 2);
            e.due("least(0, true)", x.least(0, true), 7);
        });
        e.test("20", () -> {
            ThankedMoves x = Check.street("holds 8;", 1, 0, 3, 2, 3, 3, 3, 2);
            x.person(6);
            e.due("least(0, false)", x.least(0, false), 20);
            e.due("least(0, true)", x.least(0, true), 6);
        });
        e.test("21", () -> {
            ThankedMoves x = twentyOne();
            e.due("least(0, false)", x.least(0, false), NONE);
            e.due("least(0, true)", x.least(0, true), NONE);
            x.kind(6, x.of(6, 0) + 1);
            e.due("with 1 more there", x.least(0, false), 20);
        });
        e.test("to 99", () -> {
            ThankedMoves x = rich("holds 3;", 0, 98, 0, 0, 2, 0, 1, 2, 1, 2);
            x.person(6);
            e.due("least(0, false)", x.least(0, false), 1);
            e.due("least(0, true)", x.least(0, true), 0);
        });
        e.test("not beyond 99", () -> {
            ThankedMoves x = rich("holds 3;", 0, 99, 0, 3, 3, 3, 1, 1, 1, 0);
            x.person(1);
            e.due("least(0, false)", x.least(0, false), 1);
            e.due("least(0, true)", x.least(0, true), 1);
        });
    }

    /** As the street of 20 has it, but with 1 less in house 6. */
    private static ThankedMoves twentyOne() {
        ThankedMoves x = Check.street("holds 8;", 1, 0, 3, 2, 3, 3, 2, 2);
        x.person(6);
        return x;
    }

    private void meeting() {
        e.says("MEETING of two (unlike): the fewest HOUSES (3 at most), 1 GOOD in each (not beyond 99), one behind the other and SETTLED each time, so that both are in one HOUSE: of like ones the lowest first, then the next, .. (0: it is so as it is now, not SETTLED).");
        e.test("like ones", () -> {
            ThankedMoves x = new ThankedMoves();
            x.person(3);
            x.person(3);
            e.due("meet(0, 0, NONE)", x.meet(0, 0, NONE), -2);
            e.due("meet(0, 1, NONE)", x.meet(0, 1, NONE), 0);
        });
        e.test("0: as it is now, though settled both are off", () -> {
            ThankedMoves x = Check.street(null, 0, 0, 0, 0, 0, 0, 0, 2);
            x.person(7);
            x.person(7);
            e.due("meet(0, 1, NONE)", x.meet(0, 1, NONE), 0);
        });
        e.test("not 0, though settled they are in one house", () -> {
            ThankedMoves x = Check.street(null, 0, 0, 2, 1);
            x.person(2);
            x.person(3);
            e.due("meet(0, 1, NONE)", x.meet(0, 1, NONE), 1);
        });
        e.test("1: the lowest, where any would do", () -> {
            ThankedMoves x = Check.street(null, 0, 0, 2, 1);
            x.person(2);
            x.person(3);
            e.due("meet(0, 1, 0)", x.meet(0, 1, 0), 0);
        });
        e.test("2", () -> {
            ThankedMoves x = new ThankedMoves();
            x.person(2);
            x.person(3);
            e.due("meet(0, 1, NONE)", x.meet(0, 1, NONE), 2);
            e.due("meet(0, 1, 0)", x.meet(0, 1, 0), 2);
            e.due("meet(0, 1, 1)", x.meet(0, 1, 1), 2);
        });
        e.test("3: the lowest first, then the next", () -> {
            ThankedMoves x = Check.street(null, 0, 0, 2, 1);
            x.person(2);
            x.person(0);
            int[] due = {0, 0, 3};
            e.due("meet(0, 1, NONE)", x.meet(0, 1, NONE), 3);
            for (int i = 0; i < 3; i++) {
                e.due("meet(0, 1, " + i + ")", x.meet(0, 1, i), due[i]);
            }
        });
        e.test("4 are too many", () -> {
            ThankedMoves x = Check.street("holds if here=3 then 2 else 9 end;", 0, 0, 0, 1);
            x.person(3);
            x.person(4);
            e.due("3", x.meet(0, 1, NONE), 3);
            x.kind(3, 0);
            e.due("4", x.meet(0, 1, NONE), -2);
        });
        e.test("off the street is no house", () -> {
            ThankedMoves x = Check.street(null, 0, 0, 0, 0, 0, 0, 0, 2);
            x.person(7);
            x.person(7);
            x.thank(7);
            e.due("meet(0, 1, NONE)", x.meet(0, 1, NONE), -2);
        });
        e.test("good to 99", () -> {
            ThankedMoves x = rich("holds 3;", 0, 98);
            x.person(5);
            x.person(4);
            e.due("meet(0, 1, NONE)", x.meet(0, 1, NONE), 1);
            e.due("meet(0, 1, 0)", x.meet(0, 1, 0), 0);
        });
        e.test("not beyond 99", () -> {
            ThankedMoves x = rich("holds 3;", 0, 99);
            x.person(5);
            x.person(4);
            e.due("meet(0, 1, NONE)", x.meet(0, 1, NONE), 1);
            e.due("meet(0, 1, 0)", x.meet(0, 1, 0), 1);
        });
    }

    private void doers() {
        e.says("WHO DID IT: one or two times 1 GOOD in a HOUSE, SETTLED each time, from KINDNESS in THE IMAGE on (all else as now), by which KINDNESS of all HOUSES is as now: in how many ways; the lowest: of one HOUSE first (its number), of two 10 and 10 times the first and the second one.");
        e.test("none: nothing was done", () -> {
            e.due("doers(false)", new ThankedMoves().doers(false), 0);
            e.due("doers(true)", new ThankedMoves().doers(true), NONE);
        });
        e.test("none: three times", () -> {
            ThankedMoves x = Check.street("holds 9;", 3);
            e.due("doers(false)", x.doers(false), 0);
        });
        e.test("one, house 0 and house 7", () -> {
            ThankedMoves x = Check.street("holds 9;", 1);
            e.due("doers(true)", x.doers(true), 0);
            x.kind(0, 0);
            x.kind(7, 1);
            e.due("doers(true)", x.doers(true), 7);
            e.due("doers(false)", x.doers(false), 1);
        });
        e.test("two: 0 0 is 10, 7 7 is 87", () -> {
            ThankedMoves x = Check.street("holds 9;", 2);
            e.due("doers(true)", x.doers(true), 10);
            e.due("doers(false)", x.doers(false), 1);
            x.kind(0, 0);
            x.kind(7, 2);
            e.due("doers(true)", x.doers(true), 87);
        });
        e.test("two unlike ones are two ways", () -> {
            ThankedMoves x = Check.street("holds 9;", 0, 1, 0, 0, 0, 1);
            e.due("doers(false)", x.doers(false), 2);
            e.due("doers(true)", x.doers(true), 25);
        });
        e.test("of one first, though its number is above that of two", () -> {
            // 1 alone, or 0 twice
            ThankedMoves x = Check.street(null, 0, 1);
            e.due("doers(false)", x.doers(false), 2);
            e.due("doers(true)", x.doers(true), 1);
        });
        e.test("an image that is not at rest is settled by the first", () -> {
            ThankedMoves x = Check.street(null, 0, 0, 2);
            x.image();
            e.due("as it is: not by any", x.doers(false), 0);
            x.good(7, 1);
            x.settle();
            e.due("doers(true)", x.doers(true), 7);
        });
        e.test("all else as now: law, NIGHT, PEOPLE", () -> {
            ThankedMoves x = Check.street("holds night+people;");
            x.image();
            x.night(1);
            x.person(3);
            x.kind(2, 0);
            x.kind(3, 2);
            e.due("doers(true)", x.doers(true), 43);
            x.by(NONE);
            e.due("doers(true)", x.doers(true), NONE);
        });
        e.test("good to 99", () -> {
            ThankedMoves x = rich("holds 3;", 2, 98, 2, 0, 0, 2, 2, 2, 1, 2);
            x.image();
            x.good(2, 1);
            x.settle();
            e.due("doers(false)", x.doers(false), 8);
            e.due("doers(true)", x.doers(true), 2);
        });
        e.test("a good beyond 99 can't be", () -> {
            ThankedMoves x = rich("holds 3;", 2, 99, 2, 0, 0, 2, 2, 2, 1, 2);
            x.image();
            x.settle();
            x.good(6, 1);
            x.settle();
            e.due("doers(false)", x.doers(false), 7);
            e.due("doers(true)", x.doers(true), 6);
        });
    }

    private void odds(String call, int upper, int lower, int dueUpper, int dueLower) {
        e.due(call + " upper", upper, dueUpper);
        e.due(call + " lower", lower, dueLower);
    }

    private void likely(ThankedMoves x, int n, int upper, int lower) {
        odds("likely(0, " + n + ")", x.likely(0, n, false), x.likely(0, n, true), upper, lower);
    }

    private void allOff(ThankedMoves x, int n, int upper, int lower) {
        odds("off(" + n + ")", x.off(n, false), x.off(n, true), upper, lower);
    }

    private void likely() {
        e.says("LIKELY: n times a HOUSE, each alike, has 1 GOOD done (beyond 99 none), and it is SETTLED each time: how likely a PERSON is in another HOUSE (or off) then than now;");
        e.test("never", () -> {
            ThankedMoves x = new ThankedMoves();
            x.person(3);
            likely(x, 1, 0, 1);
        });
        e.test("always", () -> {
            ThankedMoves x = Check.street(null, 0, 0, 0, 2);
            x.person(3);
            likely(x, 1, 1, 1);
            likely(x, 3, 1, 1);
        });
        e.test("one of 8, one of 64, one of 512", () -> {
            ThankedMoves x = Check.street("holds 9;", 0, 0, 0, 10);
            x.person(3);
            likely(x, 1, 1, 8);
            x.kind(3, 9);
            likely(x, 2, 1, 64);
            x.kind(3, 8);
            likely(x, 2, 0, 1);
            likely(x, 3, 1, 512);
        });
        e.test("off is another", () -> {
            ThankedMoves x = Check.street(null, 0, 0, 0, 0, 0, 0, 0, 2);
            x.person(7);
            likely(x, 1, 1, 1);
        });
        e.test("who is off stays off", () -> {
            ThankedMoves x = Check.street(null, 0, 0, 0, 0, 0, 0, 0, 2);
            x.person(7);
            x.thank(7);
            likely(x, 3, 0, 1);
        });
        e.test("good to 99", () -> {
            ThankedMoves x = rich("holds 9;", 1, 98, 2, 0, 0, 0, 0, 2, 0, 0);
            x.person(5);
            likely(x, 1, 3, 4);
        });
        e.test("beyond 99 none", () -> {
            ThankedMoves x = rich("holds if here=3 then 6 else 3 end;", 7, 99);
            x.person(2);
            likely(x, 1, 5, 8);
        });
        e.test("settled though none is done", () -> {
            ThankedMoves x = new ThankedMoves();
            for (int h = 0; h < 8; h++) {
                Check.enrich(x, h, 99);
            }
            x.person(0);
            likely(x, 1, 1, 1);
        });
        e.says("ALL OFF: how likely nobody is in the street; in lowest terms.");
        e.test("nobody is there", () -> allOff(new ThankedMoves(), 1, 1, 1));
        e.test("never", () -> {
            ThankedMoves x = new ThankedMoves();
            x.person(0);
            allOff(x, 3, 0, 1);
        });
        e.test("one of two is off: not all", () -> {
            ThankedMoves x = Check.street("holds 9;", 0, 0, 0, 0, 0, 0, 0, 11);
            x.person(7);
            allOff(x, 1, 1, 1);
            x.person(0);
            allOff(x, 1, 0, 1);
        });
        e.test("in lowest terms", () -> {
            ThankedMoves x = Check.street(null, 0, 0, 0, 0, 0, 0, 0, 1);
            x.person(7);
            allOff(x, 1, 1, 8);
            allOff(x, 2, 1, 4);
        });
        e.test("good to 99", () -> {
            ThankedMoves x = rich("holds 9;", 6, 98, 1, 1, 1, 1, 1, 1, 1, 1);
            x.person(2);
            x.person(6);
            allOff(x, 1, 3, 4);
        });
        e.test("beyond 99 none", () -> {
            ThankedMoves x = rich("holds 5;", 1, 99, 1, 0, 1, 0, 1, 0, 0, 1);
            x.person(2);
            x.person(7);
            allOff(x, 1, 3, 4);
        });
    }

    /** Needs by which the cart must turn at each house: to 4, 2, 5, 1, 6, 0 and 7, each just in time. */
    private static ThankedMoves turning() {
        ThankedMoves x = new ThankedMoves();
        int[] dues = {21, 10, 3, NONE, 1, 6, 15, 28};
        for (int h = 0; h < 8; h++) {
            x.need(h, dues[h]);
        }
        return x;
    }

    private void cart() {
        e.says("A CART goes from a HOUSE, one HOUSE along each time (times from 0), and is in each HOUSE that has a NEED (told: due 0 .. 30) by then at the latest: when it is in the last of them first, at the least (0 without); it can't.");
        e.test("without", () -> e.due("cart(3)", new ThankedMoves().cart(3), 0));
        e.test("due 0 where it is, and beside", () -> {
            ThankedMoves x = new ThankedMoves();
            x.need(3, 0);
            e.due("cart(3)", x.cart(3), 0);
            e.due("cart(2)", x.cart(2), NONE);
            e.due("cart(4)", x.cart(4), NONE);
        });
        e.test("from end to end, just in time and too late", () -> {
            ThankedMoves x = new ThankedMoves();
            x.need(7, 7);
            e.due("cart(0)", x.cart(0), 7);
            x.need(7, 6);
            e.due("cart(0)", x.cart(0), NONE);
            x.need(7, NONE);
            x.need(0, 7);
            e.due("cart(7)", x.cart(7), 7);
            x.need(0, 6);
            e.due("cart(7)", x.cart(7), NONE);
        });
        e.test("due 30", () -> {
            ThankedMoves x = new ThankedMoves();
            x.need(0, 30);
            x.need(7, 30);
            e.due("cart(3)", x.cart(3), 10);
            e.due("cart(4)", x.cart(4), 10);
        });
        e.test("turning at each house, each just in time", () -> {
            e.due("cart(3)", turning().cart(3), 28);
        });
        e.test("and one a time too early", () -> {
            int[] dues = {21, 10, 3, NONE, 1, 6, 15, 28};
            for (int h = 0; h < 8; h++) {
                if (dues[h] != NONE) {
                    ThankedMoves x = turning();
                    x.need(h, dues[h] - 1);
                    e.due("cart(3) with house " + h + " due earlier", x.cart(3), NONE);
                }
            }
        });
        e.test("the longer way, where the shorter one is late", () -> {
            ThankedMoves x = new ThankedMoves();
            x.need(0, 30);
            x.need(7, 9);
            e.due("cart(3)", x.cart(3), 11);
        });
        e.says("A ROUND: the HOUSES with NEEDS in the order in which it is in them first, of all such that are done then and in time the lowest first, then the next, ...");
        e.test("without", () -> e.due("round(3, 0)", new ThankedMoves().round(3, 0), -2));
        e.test("where it is, is the first", () -> {
            ThankedMoves x = new ThankedMoves();
            x.need(4, 30);
            x.need(6, 30);
            rounds(x, 4, 4, 6);
            rounds(x, 5, 4, 6);
        });
        e.test("of two that are alike the lowest first", () -> {
            ThankedMoves x = new ThankedMoves();
            x.need(2, 30);
            x.need(6, 30);
            rounds(x, 4, 2, 6);
        });
        e.test("the other one in time alone", () -> {
            ThankedMoves x = new ThankedMoves();
            x.need(2, 30);
            x.need(6, 5);
            rounds(x, 4, 6, 2);
        });
        e.test("done then goes ahead of lowest", () -> {
            ThankedMoves x = new ThankedMoves();
            x.need(1, 30);
            x.need(6, 30);
            rounds(x, 4, 6, 1);
        });
        e.test("then the next", () -> {
            // 3 first, by 1; then 1 and 5, or 5 and 1, in the same time
            ThankedMoves x = new ThankedMoves();
            x.need(3, 1);
            x.need(1, 30);
            x.need(5, 30);
            e.due("cart(4)", x.cart(4), 7);
            rounds(x, 4, 3, 1, 5);
        });
        e.test("all that it passes are in it", () -> rounds(turning(), 3, 4, 2, 5, 1, 6, 0, 7));
        e.test("of two that turn twice the lowest first, then the next", () -> {
            // 3 and 5 by 3: so 3, 5, 6, 2 or 5, 3, 2, 6, both done at 8
            ThankedMoves x = new ThankedMoves();
            x.need(3, 3);
            x.need(5, 3);
            x.need(2, 8);
            x.need(6, 8);
            e.due("cart(4)", x.cart(4), 8);
            rounds(x, 4, 3, 5, 6, 2);
            x.need(4, 0);
            rounds(x, 4, 4, 3, 5, 6, 2);
            x.need(5, 1);
            rounds(x, 4, 4, 5, 3, 2, 6);
        });
    }

    private void rounds(ThankedMoves x, int from, int... due) {
        for (int i = 0; i < due.length; i++) {
            e.due("round(" + from + ", " + i + ")", x.round(from, i), due[i]);
        }
        e.due("no more", x.round(from, due.length), -2);
    }

    private void people() {
        e.says("SICK: HOUSES (bits) with a NEED.");
        e.test("none, 0 and 7, all", () -> {
            ThankedMoves x = new ThankedMoves();
            e.due("sick()", x.sick(), 0);
            x.need(0, 0);
            x.need(7, 30);
            e.due("sick()", x.sick(), 129);
            for (int h = 0; h < 8; h++) {
                x.need(h, 0);
            }
            e.due("sick()", x.sick(), 255);
        });
        e.says("BESIDE: PEOPLE (bits, but the PERSON) in its HOUSE or one beside (off: none).");
        e.test("in its house, one and two along", () -> {
            ThankedMoves x = new ThankedMoves();
            for (int home : new int[] {3, 1, 2, 3, 5}) {
                x.person(home);
            }
            e.due("beside(0)", x.beside(0), 12);
            e.due("beside(1)", x.beside(1), 4);
            e.due("beside(4)", x.beside(4), 0);
        });
        e.test("at both ends: 0 and 7 are not beside one another", () -> {
            ThankedMoves x = new ThankedMoves();
            x.person(0);
            x.person(7);
            e.due("beside(0)", x.beside(0), 0);
            e.due("beside(1)", x.beside(1), 0);
            x.person(1);
            x.person(6);
            e.due("beside(0)", x.beside(0), 4);
            e.due("beside(1)", x.beside(1), 8);
        });
        e.test("those off: none, and beside none", () -> {
            ThankedMoves x = Check.street(null, 0, 0, 0, 0, 0, 0, 0, 2);
            x.person(7);
            x.person(7);
            x.thank(7);
            x.person(0);
            x.person(7);
            e.due("beside(0)", x.beside(0), 0);
            e.due("beside(2)", x.beside(2), 0);
            e.due("beside(3)", x.beside(3), 0);
        });
        e.says("ALONE: PEOPLE (bits) in the street with nobody BESIDE.");
        e.test("nobody, one, two apart, two beside one another", () -> {
            ThankedMoves x = new ThankedMoves();
            e.due("alone()", x.alone(), 0);
            x.person(3);
            e.due("alone()", x.alone(), 1);
            x.person(5);
            e.due("alone()", x.alone(), 3);
            x.person(4);
            e.due("alone()", x.alone(), 0);
        });
        e.test("who is off is not in the street", () -> {
            ThankedMoves x = Check.street(null, 0, 0, 0, 0, 0, 0, 0, 2);
            x.person(7);
            x.thank(7);
            e.due("alone()", x.alone(), 0);
            x.person(0);
            e.due("alone()", x.alone(), 2);
        });
        e.says("SPREAD: how far the two that are farthest apart are (off ones aside; 0 without two).");
        e.test("nobody, one, two in a house, from end to end", () -> {
            ThankedMoves x = new ThankedMoves();
            e.due("spread()", x.spread(), 0);
            x.person(7);
            e.due("spread()", x.spread(), 0);
            x.person(7);
            e.due("spread()", x.spread(), 0);
            x.person(6);
            e.due("spread()", x.spread(), 1);
            x.person(0);
            e.due("spread()", x.spread(), 7);
        });
        e.test("off ones aside", () -> {
            ThankedMoves x = Check.street(null, 0, 0, 0, 0, 0, 0, 0, 2);
            x.person(7);
            x.person(4);
            x.thank(7);
            e.due("spread()", x.spread(), 0);
            x.person(2);
            e.due("spread()", x.spread(), 2);
        });
        e.says("CROWDED: the HOUSE with most PEOPLE (one at least); of like ones the lowest.");
        e.test("none without one, one, of like ones the lowest", () -> {
            ThankedMoves x = new ThankedMoves();
            e.due("crowded()", x.crowded(), NONE);
            x.person(7);
            e.due("crowded()", x.crowded(), 7);
            x.person(0);
            e.due("crowded()", x.crowded(), 0);
            x.person(7);
            e.due("crowded()", x.crowded(), 7);
        });
        e.test("those off are in no house", () -> {
            ThankedMoves x = Check.street(null, 0, 0, 0, 0, 0, 0, 0, 2);
            x.person(7);
            x.person(7);
            x.thank(7);
            e.due("crowded()", x.crowded(), NONE);
            x.person(5);
            e.due("crowded()", x.crowded(), 5);
        });
        e.says("EMPTY: HOUSES (bits) with nobody.");
        e.test("all, all but 0 and 7", () -> {
            ThankedMoves x = new ThankedMoves();
            e.due("empty()", x.empty(), 255);
            x.person(0);
            x.person(7);
            x.person(7);
            e.due("empty()", x.empty(), 126);
        });
        e.test("behind one who went off", () -> {
            ThankedMoves x = Check.street(null, 0, 0, 0, 0, 0, 0, 0, 2);
            x.person(7);
            x.thank(7);
            e.due("empty()", x.empty(), 255);
        });
    }

    private void laws() {
        e.says("WHOSE LAW (told: SAID, 8 at most: a HOUSE, holds 0 .. 9): TEXTS (bits) by whose holds all are so (as now).");
        e.test("no text", () -> {
            ThankedMoves x = new ThankedMoves();
            x.said(0, 0);
            e.due("whose()", x.whose(), 0);
        });
        e.test("nothing said: all texts", () -> {
            ThankedMoves x = Check.street("holds 5;");
            Check.text(x, "gifts 5;");
            e.due("whose()", x.whose(), 3);
        });
        e.test("0 and 9, as they are cut", () -> {
            ThankedMoves x = new ThankedMoves();
            Check.text(x, "holds -5;");
            Check.text(x, "holds 15;");
            Check.text(x, "gifts 3;");
            x.said(0, 0);
            e.due("whose()", x.whose(), 5);
            x.said(NONE, 0);
            x.said(7, 9);
            e.due("whose()", x.whose(), 2);
        });
        e.test("all 8, the last too", () -> {
            ThankedMoves x = new ThankedMoves();
            Check.text(x, "holds here;");
            Check.text(x, "holds if here=7 then 6 else here end;");
            for (int h = 0; h < 8; h++) {
                e.due("whose() of both", x.whose(), 3);
                x.said(h, h);
            }
            e.due("whose()", x.whose(), 1);
        });
        e.test("one not so is enough", () -> {
            ThankedMoves x = Check.street("holds here;");
            x.said(1, 2);
            x.said(2, 2);
            e.due("whose()", x.whose(), 0);
        });
        e.test("as now", () -> {
            ThankedMoves x = Check.street("holds kind;");
            x.said(3, 4);
            e.due("whose()", x.whose(), 0);
            x.kind(3, 4);
            e.due("whose()", x.whose(), 1);
        });
        e.test("four texts", () -> {
            ThankedMoves x = new ThankedMoves();
            for (int i = 0; i < 4; i++) {
                Check.text(x, "holds 4;");
            }
            x.said(0, 4);
            e.due("whose()", x.whose(), 15);
        });
        e.says("READY: HOUSES (bits) that can be THANKED.");
        e.test("none, 0 and 7, all", () -> {
            e.due("ready()", ones().ready(), 0);
            e.due("ready()", Check.street(null, 2, 1, 1, 1, 1, 1, 1, 2).ready(), 129);
            e.due("ready()", Check.street(null, 2, 2, 2, 2, 2, 2, 2, 2).ready(), 255);
        });
    }

    private void kindness() {
        e.says("BALANCE: KINDNESS of HOUSES 0 .. 3 less that of 4 .. 7.");
        e.test("3 and 4 are on either side", () -> {
            e.due("balance()", Check.street(null, 0, 0, 0, 5).balance(), 5);
            e.due("balance()", Check.street(null, 0, 0, 0, 0, 5).balance(), -5);
        });
        e.test("nothing, and the ends", () -> {
            e.due("balance()", new ThankedMoves().balance(), 0);
            e.due("balance()", Check.street(null, 40, 0, 0, 0, 0, 0, 0, 39).balance(), 1);
        });
        e.says("MIDDLE: the lowest HOUSE that with all lower ones has half of KINDNESS of all HOUSES or more; none without.");
        e.test("none without", () -> e.due("middle()", new ThankedMoves().middle(), NONE));
        e.test("half, just below half, more", () -> {
            e.due("2 of 4", Check.street(null, 1, 1, 0, 2).middle(), 1);
            e.due("2 of 5", Check.street(null, 1, 1, 0, 3).middle(), 3);
            e.due("2 of 3", Check.street(null, 1, 1, 0, 1).middle(), 1);
        });
        e.test("0 and 7", () -> {
            e.due("middle()", Check.street(null, 1).middle(), 0);
            e.due("middle()", Check.street(null, 0, 0, 0, 0, 0, 0, 0, 1).middle(), 7);
            e.due("middle()", Check.street(null, 1, 0, 0, 0, 0, 0, 0, 1).middle(), 0);
        });
        e.says("KINDEST: the HOUSE of most KINDNESS (above 0); of like ones the lowest; none.");
        e.test("none", () -> e.due("kindest()", new ThankedMoves().kindest(), NONE));
        e.test("1 is enough; 0 and 7", () -> {
            e.due("kindest()", Check.street(null, 1).kindest(), 0);
            e.due("kindest()", Check.street(null, 0, 0, 0, 0, 0, 0, 0, 1).kindest(), 7);
        });
        e.test("of like ones the lowest", () -> {
            e.due("kindest()", Check.street(null, 1, 3, 0, 0, 0, 3).kindest(), 1);
        });
    }

    private void travelled() {
        e.says("MOST TRAVELLED: the PERSON written down most often (once at least); of like ones the lowest; none.");
        e.test("none", () -> {
            ThankedMoves x = new ThankedMoves();
            e.due("travelled()", x.travelled(), NONE);
            x.person(3);
            e.due("travelled()", x.travelled(), NONE);
        });
        e.test("once, and of like ones the lowest", () -> {
            ThankedMoves x = Check.street(null, 0, 0, 0, 2, 0, 2);
            x.person(5);
            x.person(3);
            x.thank(3);
            e.due("travelled()", x.travelled(), 1);
            x.thank(5);
            e.due("travelled()", x.travelled(), 0);
        });
        e.test("what is out of the BOOK is not written down", () -> {
            ThankedMoves x = new ThankedMoves();
            Edges.journey(x, 30);
            e.due("8, 8, 8 and 6", x.travelled(), 0);
            x.kind(6, 2);
            x.thank(6);
            e.due("7, 8, 8 and 7", x.travelled(), 1);
        });
        e.says("BY THE BOOK: how often a PERSON is written down (NONE: all).");
        e.test("not yet, once, and all", () -> {
            ThankedMoves x = Check.street(null, 0, 0, 0, 2);
            x.person(3);
            x.person(4);
            x.thank(3);
            e.due("ledger(0)", x.ledger(0), 1);
            e.due("ledger(1)", x.ledger(1), 0);
            e.due("ledger(NONE)", x.ledger(NONE), 1);
        });
        e.test("the latest 30 alone", () -> {
            ThankedMoves x = new ThankedMoves();
            Edges.journey(x, 32);
            int[] due = {6, 8, 8, 8};
            for (int p = 0; p < 4; p++) {
                e.due("ledger(" + p + ")", x.ledger(p), due[p]);
            }
            e.due("ledger(NONE)", x.ledger(NONE), 30);
        });
    }

    private void years() {
        e.says("YEARS by a SEED: X is SEED (0 .. 9999) * 2 + 347; n times (1 .. 40): x is X, X anew (as in a draw):");
        e.test("seed 0", () -> {
            // 347 is a NIGHT, by 23282 and 7153
            ThankedMoves x = new ThankedMoves();
            x.years(0, 1);
            e.due("is(1)", x.is(1), 29328);
        });
        e.test("seed 9999", () -> {
            // 20345 is a NIGHT, by 5713 (3: no snow) and 30260 (house 4)
            ThankedMoves x = new ThankedMoves();
            e.due("years(9999, 1)", x.years(9999, 1), 1);
            e.due("is(1)", x.is(1), 23710);
            e.same("kindness", Check.kinds(x), "00001000");
        });
        e.test("seed -1 and 10000", () -> {
            ThankedMoves x = new ThankedMoves();
            e.refused(x, "years(-1, 1)", () -> x.years(-1, 1), NONE);
            e.refused(x, "years(10000, 1)", () -> x.years(10000, 1), NONE);
        });
        e.test("once, and 40 times", () -> {
            ThankedMoves x = new ThankedMoves();
            x.years(35, 1);
            e.due("is(1)", x.is(1), 3534);
            ThankedMoves y = new ThankedMoves();
            ThankedMoves z = new ThankedMoves();
            e.due("years(7, 40)", y.years(7, 40), passed(7, 40));
            e.due("years(7, 39)", z.years(7, 39), passed(7, 39));
        });
        e.test("0 and 41 times", () -> {
            ThankedMoves x = new ThankedMoves();
            e.refused(x, "years(0, 0)", () -> x.years(0, 0), NONE);
            e.refused(x, "years(0, 41)", () -> x.years(0, 41), NONE);
        });
        e.test("X of before does not matter", () -> {
            ThankedMoves x = new ThankedMoves();
            x.night(9);
            x.years(35, 1);
            e.due("is(1)", x.is(1), 3534);
        });
        e.says("x mod 6: 0, 1 1 and x mod 3 GOOD in HOUSE x / 6 mod 8; 2 that HOUSE is THANKED; 3 SETTLED (each if it can be); 4, 5 a NIGHT (if it can pass).");
        e.test("0: 1 GOOD", () -> {
            // 417 settles nothing; 3534 is 1 GOOD in 5
            ThankedMoves x = new ThankedMoves();
            x.years(35, 2);
            e.same("kindness", Check.kinds(x), "00000100");
        });
        e.test("1: 2 GOOD", () -> {
            // 415 is 2 GOOD in 5
            ThankedMoves x = new ThankedMoves();
            x.years(34, 1);
            e.same("kindness", Check.kinds(x), "00000200");
        });
        e.test("GOOD in houses 0 and 7", () -> {
            // 21504 is 1 GOOD in 0, 8635 is 2 GOOD in 7
            ThankedMoves x = new ThankedMoves();
            x.years(50, 2);
            x.years(65, 2);
            e.same("kindness", Check.kinds(x), "10000002");
        });
        e.test("GOOD to 99, and not beyond", () -> {
            // 349 is 2 GOOD in 2, 24480 is 1 GOOD in 0
            e.due("97 and 2", yearsFrom(2, 97, 1, 1), 99);
            e.due("98 and 2", yearsFrom(2, 98, 1, 1), 98);
            e.due("98 and 1", yearsFrom(0, 98, 1, 2), 99);
            e.due("99 and 1", yearsFrom(0, 99, 1, 2), 99);
        });
        e.test("2: thanked, if it can be", () -> {
            // 415 is 2 GOOD in 5, 2336 thanks 5
            ThankedMoves x = new ThankedMoves();
            x.person(5);
            x.years(34, 2);
            e.same("kindness", Check.kinds(x), "00001010");
            e.due("ofPerson(0)", x.ofPerson(0), 6);
            e.due("not by night", x.is(4), 0);
            ThankedMoves y = Check.street("holds 1;");
            y.years(34, 2);
            e.same("1 more than it holds is too little", Check.kinds(y), "00000200");
        });
        e.test("2: once, and that house alone", () -> {
            ThankedMoves x = Check.street(null, 0, 2, 0, 0, 0, 2);
            x.years(34, 2);
            e.same("4 in 5, thanked once; 1 is not", Check.kinds(x), "02001210");
            ThankedMoves y = Check.street("holds 1;", 0, 5);
            y.years(34, 2);
            e.same("nor where 5 can't be", Check.kinds(y), "05000200");
        });
        e.test("3: settled, if it can be", () -> {
            ThankedMoves x = Check.street(null, 2, 0, 0, 2);
            x.years(2, 1);
            e.same("kindness", Check.kinds(x), "01101000");
            e.due("not by night", x.is(4), 0);
            x.years(2, 1);
            e.same("kindness", Check.kinds(x), "01101000");
        });
        e.test("4 and 5: a NIGHT", () -> {
            // 351 settles nothing, 25678 is a NIGHT; 347 is one
            ThankedMoves x = new ThankedMoves();
            e.due("years(2, 2)", x.years(2, 2), 1);
            e.due("is(1)", x.is(1), 6726);
            e.due("years(0, 1)", x.years(0, 1), 2);
        });
        e.test("a NIGHT that can't pass", () -> {
            ThankedMoves x = Edges.inNight(9999);
            x.kind(3, 5);
            x.by(NONE);
            String kinds = Check.kinds(x);
            int snow = x.is(2);
            e.due("years(0, 1)", x.years(0, 1), 9999);
            e.same("kindness", Check.kinds(x), kinds);
            e.due("is(2)", x.is(2), snow);
            e.due("X is anew once", x.is(1), 23282);
        });
        e.test("a NIGHT in 9998 passes", () -> {
            e.due("years(0, 1)", Edges.inNight(9998).years(0, 1), 9999);
        });
        e.says("It is one STEP: NIGHT.");
        e.test("of 40", () -> {
            ThankedMoves x = new ThankedMoves();
            int night = x.years(0, 40);
            e.due("is(0)", x.is(0), night);
            e.due("about(3)", x.about(3), 1);
            e.due("undo()", x.undo(), 0);
            e.due("is(0)", x.is(0), 0);
        });
        e.test("though nothing was done by it but X", () -> {
            ThankedMoves x = new ThankedMoves();
            e.due("years(2, 1)", x.years(2, 1), 0);
            e.due("about(3)", x.about(3), 1);
            x.undo();
            e.due("is(1)", x.is(1), 347);
        });
    }

    private static int anew(int x) {
        return (x * 599 + 463) % 30839;
    }

    private static int afterNight(int x) {
        return anew(anew(anew(x)));
    }

    /** How many NIGHTS pass in YEARS by a seed. */
    private static int passed(int seed, int n) {
        int x = seed * 2 + 347;
        int nights = 0;
        for (int i = 0; i < n; i++) {
            boolean night = x % 6 > 3;
            nights += night ? 1 : 0;
            x = night ? afterNight(x) : anew(x);
        }
        return nights;
    }

    /** What a house that has so much has behind YEARS that settle nothing. */
    private static int yearsFrom(int house, int kindness, int seed, int n) {
        ThankedMoves x = new ThankedMoves();
        Check.enrich(x, house, kindness);
        x.years(seed, n);
        return x.of(house, 0);
    }

    private void image() {
        e.says("AN IMAGE: all as it is, but the tape and the latest FAULT.");
        e.test("the tape is not in it", () -> {
            ThankedMoves x = new ThankedMoves();
            x.feed(0, 0, 0, 0, 0);
            x.image();
            x.feed(0, 0, 0, 0, 0);
            x.back();
            e.due("about(6)", x.about(6), 40);
            x.end(0);
            x.back();
            e.due("about(6)", x.about(6), 0);
        });
        e.test("the latest FAULT is not in it", () -> {
            ThankedMoves x = new ThankedMoves();
            x.image();
            Check.text(x, "settle");
            x.back();
            e.due("fault(0)", x.fault(0), 1);
            e.due("fault(1)", x.fault(1), 6);
        });
        e.test("of 4 TEXTS, of none", () -> {
            ThankedMoves x = new ThankedMoves();
            for (int i = 0; i < 4; i++) {
                Check.text(x, "holds " + (i + 1) + ";");
            }
            x.back();
            e.due("none", x.about(1), 0);
            for (int i = 0; i < 4; i++) {
                Check.text(x, "holds " + (i + 5) + ";");
            }
            x.image();
            x.back();
            e.due("four", x.about(1), 4);
            for (int i = 0; i < 4; i++) {
                x.by(i);
                e.due("its law", x.of(0, 2), i + 5);
            }
        });
        e.test("of 30 STEPS", () -> {
            ThankedMoves x = new ThankedMoves();
            for (int i = 0; i < 31; i++) {
                x.good(i % 8, 1);
            }
            x.image();
            x.night(40);
            x.kind(3, 33);
            x.back();
            for (int i = 29; i >= 0; i--) {
                e.due("undo()", x.undo(), i);
            }
            e.same("kindness", Check.kinds(x), "10000000");
        });
        e.test("of a full BOOK", () -> {
            ThankedMoves x = new ThankedMoves();
            Edges.journey(x, 30);
            x.image();
            x.kind(6, 2);
            x.thank(6);
            x.back();
            e.due("book(0, 2)", x.book(0, 2), 1);
            e.due("book(29, 2)", x.book(29, 2), 6);
        });
        e.test("of NEEDS and SAID", () -> {
            ThankedMoves x = Check.street("holds 1;");
            x.need(7, 7);
            for (int i = 0; i < 8; i++) {
                x.said(i, 1);
            }
            x.image();
            x.need(7, NONE);
            x.need(0, 30);
            x.said(NONE, 0);
            x.said(0, 5);
            x.back();
            e.due("sick()", x.sick(), 128);
            e.due("the due", x.cart(0), 7);
            e.due("about(5)", x.about(5), 8);
            e.due("whose()", x.whose(), 1);
        });
        e.test("of what was SAID, house by house", () -> {
            ThankedMoves x = Check.street("holds here;");
            x.said(3, 3);
            x.said(7, 7);
            x.image();
            x.said(NONE, 0);
            x.said(5, 5);
            x.said(6, 6);
            x.back();
            e.due("whose()", x.whose(), 1);
            e.due("about(5)", x.about(5), 2);
        });
        e.test("of SNOW", () -> {
            ThankedMoves x = new ThankedMoves();
            x.years(0, 1);
            x.image();
            x.night(1);
            e.due("is(2)", x.is(2), 0);
            x.back();
            e.due("is(2)", x.is(2), 1);
        });
        e.says("BACK: all is so again.");
        e.test("from a street where all is different", () -> {
            ThankedMoves x = Check.street("holds 1;", 1, 2, 3);
            x.person(7);
            x.night(2);
            x.need(2, 9);
            x.said(1, 1);
            x.image();
            String before = Edges.state(x);
            x.person(1);
            x.kind(7, 9);
            x.settle();
            x.night(30);
            x.years(3, 30);
            x.need(2, NONE);
            x.said(NONE, 0);
            x.by(NONE);
            x.back();
            e.same("all", Edges.state(x), before);
        });
        e.test("from fewer STEPS than it has", () -> {
            ThankedMoves x = new ThankedMoves();
            x.good(1, 1);
            x.good(2, 1);
            x.image();
            x.undo();
            x.undo();
            x.good(5, 5);
            x.back();
            e.due("undo()", x.undo(), 1);
            e.same("kindness", Check.kinds(x), "01000000");
        });
        e.test("at once, with nothing between", () -> {
            ThankedMoves x = Check.street(null, 3);
            x.image();
            String before = Edges.state(x);
            x.back();
            e.same("all", Edges.state(x), before);
        });
    }
}
