/** Boundary cases of the promises 9 to 15: what is done, and taken back. */
final class EdgesDone {
    private static final int NONE = ThankedMoves.NONE;
    private static final int LOW = Edges.LOW;
    private static final int HIGH = Edges.HIGH;
    private final Edges e;

    EdgesDone(Edges edges) {
        e = edges;
    }

    void run() {
        good();
        thank();
        settle();
        night();
        played();
        years();
        undo();
    }

    private void good() {
        e.at("Promise 9");
        e.says("GOOD done: true.");
        e.test("1 and 20, houses 0 and 7", () -> {
            ThankedMoves x = new ThankedMoves();
            e.due("good(0, 1)", x.good(0, 1), true);
            e.due("good(7, 20)", x.good(7, 20), true);
            e.same("kindness", Check.kinds(x), "1000000[20]");
            e.due("two steps", x.about(3), 2);
        });
        e.test("to 99, by 1 and by 20", () -> {
            ThankedMoves x = new ThankedMoves();
            Check.enrich(x, 3, 98);
            e.due("good(3, 1)", x.good(3, 1), true);
            e.due("of(3, 0)", x.of(3, 0), 99);
            Check.enrich(x, 4, 79);
            e.due("good(4, 20)", x.good(4, 20), true);
            e.due("of(4, 0)", x.of(4, 0), 99);
        });
        e.says("False for others (1 .. 20), and beyond 99.");
        e.test("0 and 21", () -> {
            ThankedMoves x = new ThankedMoves();
            for (int n : new int[] {0, 21, -1, LOW, HIGH}) {
                e.refused(x, "good(3, " + n + ")", () -> x.good(3, n));
            }
        });
        e.test("a house too small or too large", () -> {
            ThankedMoves x = new ThankedMoves();
            for (int house : Edges.NO_HOUSES) {
                e.refused(x, "good(" + house + ", 1)", () -> x.good(house, 1));
            }
        });
        e.test("to 100, by 1 and by 20", () -> {
            ThankedMoves x = new ThankedMoves();
            Check.enrich(x, 3, 99);
            e.refused(x, "good(3, 1)", () -> x.good(3, 1));
            Check.enrich(x, 4, 80);
            e.refused(x, "good(4, 20)", () -> x.good(4, 20));
        });
    }

    private void thank() {
        e.at("Promise 10");
        e.says("THANKED: true.");
        e.test("with 2, houses 0 and 7", () -> {
            ThankedMoves x = Check.street(null, 2, 0, 0, 0, 0, 0, 0, 2);
            e.due("thank(0)", x.thank(0), true);
            e.due("thank(7)", x.thank(7), true);
            e.same("kindness", Check.kinds(x), "01000010");
            e.due("is(3)", x.is(3), 2);
            e.due("two steps", x.about(3), 2);
        });
        e.test("once, though it could be twice", () -> {
            ThankedMoves x = Check.street(null, 0, 0, 4);
            e.due("thank(2)", x.thank(2), true);
            e.same("kindness", Check.kinds(x), "01210000");
        });
        e.test("it is not settled by that", () -> {
            ThankedMoves x = Check.street(null, 0, 1, 2);
            x.thank(2);
            e.same("kindness", Check.kinds(x), "02010000");
        });
        e.test("it is not of last NIGHT", () -> {
            ThankedMoves x = Check.street(null, 0, 1, 2);
            x.thank(2);
            e.due("is(4)", x.is(4), 0);
        });
        e.says("False, if it can't be, and for others.");
        e.test("with 0 and 1", () -> {
            ThankedMoves x = Check.street(null, 0, 1);
            e.refused(x, "thank(0)", () -> x.thank(0));
            e.refused(x, "thank(1)", () -> x.thank(1));
        });
        e.test("with 1 more than a law holds", () -> {
            ThankedMoves x = Check.street("holds 9;", 10);
            e.refused(x, "thank(0)", () -> x.thank(0));
            x.kind(0, 11);
            e.due("2 more", x.thank(0), true);
        });
        e.test("a house too small or too large", () -> {
            ThankedMoves x = Check.street(null, 9, 9, 9, 9, 9, 9, 9, 9);
            for (int house : Edges.NO_HOUSES) {
                e.refused(x, "thank(" + house + ")", () -> x.thank(house));
            }
        });
    }

    private void settle() {
        e.at("Promise 11");
        e.says("SETTLED: how many times it was THANKED.");
        e.test("once", () -> {
            ThankedMoves x = Check.street(null, 0, 0, 2);
            e.due("settle()", x.settle(), 1);
            e.due("one step", x.about(3), 1);
        });
        e.test("from both ends", () -> {
            e.due("0", Check.street(null, 2).settle(), 1);
            e.due("7", Check.street(null, 0, 0, 0, 0, 0, 0, 0, 2).settle(), 1);
        });
        e.test("many times: all thanks of all houses", () -> {
            ThankedMoves x = Check.street(null, 1, 1, 1, 2, 1, 1, 1, 1);
            e.due("settle()", x.settle(), 20);
            e.due("one step", x.about(3), 1);
        });
        e.test("it is not of last NIGHT", () -> {
            ThankedMoves x = Check.street(null, 0, 0, 2);
            x.settle();
            e.due("is(4)", x.is(4), 0);
        });
        e.test("of all houses with 99", () -> {
            ThankedMoves x = new ThankedMoves();
            for (int h = 0; h < 8; h++) {
                Check.enrich(x, h, 99);
            }
            // each thanking takes 2 of the sum of k * (i + 1) * (8 - i)
            int before = weight(x);
            int times = x.settle();
            e.due("settle()", times, (before - weight(x)) / 2);
        });
        e.says("NONE, if it need not be.");
        e.test("nothing there, and 1 in each", () -> {
            ThankedMoves x = new ThankedMoves();
            e.refused(x, "settle()", x::settle, NONE);
            ThankedMoves y = EdgesParts.ones();
            e.refused(y, "settle()", y::settle, NONE);
        });
        e.test("1 more than a law holds in each", () -> {
            ThankedMoves x = Check.street("holds 9;", 10, 10, 10, 10, 10, 10, 10, 10);
            e.refused(x, "settle()", x::settle, NONE);
            x.kind(7, 11);
            e.due("2 more in one", x.settle() > 0, true);
        });
        e.test("a second time", () -> {
            ThankedMoves x = Check.street(null, 0, 0, 2);
            x.settle();
            e.refused(x, "settle()", x::settle, NONE);
        });
    }

    private static int weight(ThankedMoves x) {
        int sum = 0;
        for (int h = 0; h < 8; h++) {
            sum += x.of(h, 0) * (h + 1) * (8 - h);
        }
        return sum;
    }

    private void night() {
        e.at("Promise 12");
        e.says("NIGHTS pass (1 .. 60): how many PEOPLE go off the street in them.");
        e.test("1 and 60", () -> {
            ThankedMoves x = new ThankedMoves();
            e.due("night(1)", x.night(1), 0);
            e.due("is(0)", x.is(0), 1);
            e.due("night(60)", x.night(60), 0);
            e.due("is(0)", x.is(0), 61);
        });
        e.test("60 are as 60 times 1", () -> {
            ThankedMoves x = Check.street(null, 0, 0, 0, 0, 0, 1, 1, 1);
            ThankedMoves y = Check.street(null, 0, 0, 0, 0, 0, 1, 1, 1);
            x.person(5);
            y.person(5);
            int off = 0;
            for (int i = 0; i < 60; i++) {
                off += y.night(1);
            }
            e.due("night(60)", x.night(60), off);
            e.same("all", Edges.state(x), Edges.state(y));
        });
        e.test("none of one, one of two, all 5", () -> {
            ThankedMoves x = new ThankedMoves();
            x.person(7);
            e.due("none of one", x.night(1), 0);
            ThankedMoves y = Check.street(null, 0, 0, 0, 0, 0, 0, 0, 2);
            y.person(0);
            y.person(7);
            e.due("one of two", y.night(1), 1);
            ThankedMoves z = Check.street(null, 0, 0, 0, 0, 0, 0, 0, 2);
            for (int p = 0; p < 5; p++) {
                z.person(7);
            }
            e.due("all 5", z.night(1), 5);
        });
        e.test("those that were off are not counted again", () -> {
            ThankedMoves x = Check.street(null, 0, 0, 0, 0, 0, 0, 0, 2);
            x.person(7);
            x.thank(7);
            e.due("night(60)", x.night(60), 0);
        });
        e.says("NONE for others, or beyond 9999 (nothing is done then).");
        e.test("0 and 61", () -> {
            ThankedMoves x = new ThankedMoves();
            for (int n : new int[] {0, 61, -1, LOW, HIGH}) {
                e.refused(x, "night(" + n + ")", () -> x.night(n), NONE);
            }
        });
        e.test("to 9999, and beyond", () -> {
            ThankedMoves x = Edges.inNight(9990);
            e.refused(x, "night(10)", () -> x.night(10), NONE);
            e.refused(x, "night(60)", () -> x.night(60), NONE);
            e.due("night(9)", x.night(9) != NONE, true);
            e.due("is(0)", x.is(0), 9999);
            e.refused(x, "night(1)", () -> x.night(1), NONE);
        });
    }

    private void played() {
        e.at("Promise 13");
        e.says("PLAYED by a TEXT: NONE: all is done; else the number of the CLAUSE that can't be.");
        e.test("all is done, of none and of some", () -> {
            ThankedMoves x = new ThankedMoves();
            Check.text(x, "");
            Check.text(x, "person 7;kind 3 at 7;thank 7;");
            e.due("played(0)", x.played(0), NONE);
            e.due("played(1)", x.played(1), NONE);
            e.due("ofPerson(0)", x.ofPerson(0), NONE);
        });
        e.test("the first, the last", () -> {
            ThankedMoves x = new ThankedMoves();
            Check.text(x, "settle;person 7;");
            Check.text(x, "person 7;settle;");
            e.due("played(0)", x.played(0), 0);
            e.due("about(0)", x.about(0), 0);
            e.due("played(1)", x.played(1), 1);
            e.due("about(0)", x.about(0), 1);
        });
        e.test("the last of 4 texts", () -> {
            ThankedMoves x = new ThankedMoves();
            for (int i = 0; i < 4; i++) {
                Check.text(x, "kind " + (i + 1) + " at 3;");
            }
            e.due("played(3)", x.played(3), NONE);
            e.due("of(3, 0)", x.of(3, 0), 4);
        });
        e.test("again and again", () -> {
            ThankedMoves x = new ThankedMoves();
            Check.text(x, "good 20 at 3;");
            for (int i = 0; i < 4; i++) {
                e.due("played(0)", x.played(0), NONE);
            }
            e.refused(x, "played(0)", () -> x.played(0), 0);
        });
        e.says("-2 for others.");
        e.test("where there are none", () -> {
            ThankedMoves x = new ThankedMoves();
            e.refused(x, "played(0)", () -> x.played(0), -2);
        });
        e.test("NONE, and 1 beyond the last", () -> {
            ThankedMoves x = new ThankedMoves();
            Check.text(x, "person 7;");
            for (int text : new int[] {-1, 1, -2, 4, LOW, HIGH}) {
                e.refused(x, "played(" + text + ")", () -> x.played(text), -2);
            }
        });
        e.test("NONE, though a text rules", () -> {
            ThankedMoves x = Check.street("person 7;");
            e.refused(x, "played(NONE)", () -> x.played(NONE), -2);
        });
    }

    private void years() {
        e.at("Promise 14");
        e.says("YEARS: NIGHT.");
        e.test("none passed, one passed", () -> {
            e.due("years(2, 1)", new ThankedMoves().years(2, 1), 0);
            e.due("years(0, 1)", new ThankedMoves().years(0, 1), 1);
        });
        e.test("seeds 0 and 9999, 1 and 40", () -> {
            ThankedMoves x = new ThankedMoves();
            e.due("years(0, 40)", x.years(0, 40), x.is(0));
            e.due("years(9999, 1)", x.years(9999, 1), x.is(0));
        });
        e.test("NIGHT in all, not how many more", () -> {
            ThankedMoves x = new ThankedMoves();
            x.night(7);
            e.due("years(0, 1)", x.years(0, 1), 8);
        });
        e.test("in NIGHT 9999", () -> e.due("years(0, 40)", Edges.inNight(9999).years(0, 40), 9999));
        e.says("NONE for others.");
        e.test("seeds of -1 and 10000", () -> {
            ThankedMoves x = new ThankedMoves();
            for (int seed : new int[] {-1, 10000, LOW, HIGH}) {
                e.refused(x, "years(" + seed + ", 1)", () -> x.years(seed, 1), NONE);
            }
        });
        e.test("0 and 41", () -> {
            ThankedMoves x = new ThankedMoves();
            for (int n : new int[] {0, 41, -1, LOW, HIGH}) {
                e.refused(x, "years(0, " + n + ")", () -> x.years(0, n), NONE);
            }
        });
    }

    private void undo() {
        e.at("Promise 15");
        e.says("The latest STEP is taken back: how many can be yet.");
        e.test("one, of two, of 30", () -> {
            ThankedMoves x = new ThankedMoves();
            x.good(3, 1);
            e.due("undo()", x.undo(), 0);
            e.due("of(3, 0)", x.of(3, 0), 0);
            x.good(3, 1);
            x.good(3, 2);
            e.due("undo()", x.undo(), 1);
            e.due("of(3, 0)", x.of(3, 0), 1);
            x.night(30);
            e.due("undo()", x.undo(), 29);
            e.due("is(0)", x.is(0), 29);
        });
        e.test("each kind of STEP", () -> {
            ThankedMoves x = Check.street(null, 0, 0, 1, 3);
            x.person(3);
            String[] before = new String[5];
            before[0] = Edges.state(x);
            x.good(2, 3);
            before[1] = Edges.state(x);
            x.thank(3);
            before[2] = Edges.state(x);
            x.settle();
            before[3] = Edges.state(x);
            x.night(1);
            before[4] = Edges.state(x);
            x.years(0, 9);
            for (int i = 4; i >= 0; i--) {
                e.due("undo()", x.undo(), i);
                e.same("all ahead of step " + i, Edges.state(x), before[i]);
            }
        });
        e.test("a STEP taken back is gone: another in its place", () -> {
            ThankedMoves x = new ThankedMoves();
            x.good(3, 1);
            x.undo();
            x.good(4, 2);
            e.due("undo()", x.undo(), 0);
            e.same("kindness", Check.kinds(x), "00000000");
        });
        e.says("NONE: there is none.");
        e.test("of a new object", () -> {
            ThankedMoves x = new ThankedMoves();
            e.refused(x, "undo()", x::undo, NONE);
        });
        e.test("behind the last", () -> {
            ThankedMoves x = new ThankedMoves();
            x.good(3, 1);
            x.undo();
            e.refused(x, "undo()", x::undo, NONE);
        });
        e.test("behind what was told alone, and what was refused", () -> {
            ThankedMoves x = new ThankedMoves();
            x.kind(3, 4);
            x.person(3);
            x.good(3, 21);
            x.thank(5);
            x.night(0);
            x.years(0, 0);
            e.refused(x, "undo()", x::undo, NONE);
        });
        e.test("behind 30 of 40", () -> {
            ThankedMoves x = new ThankedMoves();
            x.night(40);
            for (int i = 0; i < 30; i++) {
                x.undo();
            }
            e.refused(x, "undo()", x::undo, NONE);
            e.due("is(0)", x.is(0), 10);
        });
    }
}
