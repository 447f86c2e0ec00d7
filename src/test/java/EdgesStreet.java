/** Boundary cases of the promises 35 to 54: the cart, who is where, laws, kindness, the book, the image. */
final class EdgesStreet {
    private static final int NONE = ThankedMoves.NONE;
    private static final int LOW = Edges.LOW;
    private static final int HIGH = Edges.HIGH;
    private final Edges e;

    EdgesStreet(Edges edges) {
        e = edges;
    }

    void run() {
        need();
        cart();
        round();
        sick();
        beside();
        alone();
        spread();
        crowded();
        empty();
        said();
        whose();
        ready();
        balance();
        middle();
        kindest();
        travelled();
        ledger();
        image();
        back();
        about();
    }

    private static ThankedMoves peopleIn(int... homes) {
        ThankedMoves x = new ThankedMoves();
        for (int home : homes) {
            x.person(home);
        }
        return x;
    }

    /** All that are in house 7 go off. */
    private static void sendOff(ThankedMoves x) {
        x.kind(7, 2);
        x.thank(7);
        x.kind(6, 0);
    }

    private void need() {
        e.at("Promise 35");
        e.says("A NEED told (due NONE: none): true.");
        e.test("due 0 and 30, houses 0 and 7", () -> {
            ThankedMoves x = new ThankedMoves();
            e.due("need(0, 0)", x.need(0, 0), true);
            e.due("need(7, 30)", x.need(7, 30), true);
            e.due("sick()", x.sick(), 129);
        });
        e.test("NONE, of a house with and without one", () -> {
            ThankedMoves x = new ThankedMoves();
            x.need(3, 5);
            e.due("need(3, NONE)", x.need(3, NONE), true);
            e.due("sick()", x.sick(), 0);
            e.due("need(3, NONE)", x.need(3, NONE), true);
            e.due("sick()", x.sick(), 0);
        });
        e.test("told anew", () -> {
            ThankedMoves x = new ThankedMoves();
            x.need(7, 1);
            e.due("cart(5)", x.cart(5), NONE);
            x.need(7, 2);
            e.due("cart(5)", x.cart(5), 2);
            e.due("sick()", x.sick(), 128);
        });
        e.says("False for others (due 0 .. 30).");
        e.test("-2 and 31", () -> {
            ThankedMoves x = new ThankedMoves();
            x.need(3, 5);
            for (int due : new int[] {-2, 31, LOW, HIGH}) {
                e.refused(x, "need(3, " + due + ")", () -> x.need(3, due));
                e.due("the need of before", x.cart(7), 4);
            }
        });
        e.test("a house too small or too large", () -> {
            ThankedMoves x = new ThankedMoves();
            for (int house : Edges.NO_HOUSES) {
                e.refused(x, "need(" + house + ", 0)", () -> x.need(house, 0));
                e.refused(x, "need(" + house + ", NONE)", () -> x.need(house, NONE));
            }
        });
    }

    private void cart() {
        e.at("Promise 36");
        e.says("A CART: when it is done.");
        e.test("0: without, and where it is", () -> {
            ThankedMoves x = new ThankedMoves();
            e.due("cart(0)", x.cart(0), 0);
            e.due("cart(7)", x.cart(7), 0);
            x.need(7, 0);
            e.due("cart(7)", x.cart(7), 0);
        });
        e.test("7: from end to end", () -> {
            ThankedMoves x = new ThankedMoves();
            for (int h = 0; h < 8; h++) {
                x.need(h, 7);
            }
            e.due("cart(0)", x.cart(0), 7);
            e.due("cart(7)", x.cart(7), 7);
        });
        e.says("NONE: it can't, and for others.");
        e.test("just in time, and 1 too late", () -> {
            ThankedMoves x = new ThankedMoves();
            x.need(2, 3);
            x.need(5, 6);
            e.due("cart(2)", x.cart(2), 3);
            e.due("cart(3)", x.cart(3), 4);
            e.due("cart(5)", x.cart(5), 3);
            e.due("cart(6)", x.cart(6), NONE);
        });
        e.test("each in time alone, but not both", () -> {
            ThankedMoves x = new ThankedMoves();
            x.need(2, 2);
            x.need(6, 2);
            e.due("cart(4)", x.cart(4), NONE);
        });
        e.test("a house too small or too large", () -> {
            for (int house : Edges.NO_HOUSES) {
                e.due("cart(" + house + ")", new ThankedMoves().cart(house), NONE);
            }
        });
    }

    private void round() {
        e.at("Promise 37");
        e.says("A ROUND: the i-th HOUSE.");
        e.test("the first and the last of 8", () -> {
            ThankedMoves x = new ThankedMoves();
            for (int h = 0; h < 8; h++) {
                x.need(h, 30);
            }
            for (int i = 0; i < 8; i++) {
                e.due("round(0, " + i + ")", x.round(0, i), i);
                e.due("round(7, " + i + ")", x.round(7, i), 7 - i);
            }
        });
        e.says("-2: none, there is none such, and for others.");
        e.test("none: without, and it can't", () -> {
            ThankedMoves x = new ThankedMoves();
            e.due("round(3, 0)", x.round(3, 0), -2);
            x.need(4, 0);
            e.due("round(3, 0)", x.round(3, 0), -2);
            e.due("round(4, 0)", x.round(4, 0), 4);
        });
        e.test("1 beyond the last, and -1", () -> {
            ThankedMoves x = new ThankedMoves();
            x.need(4, 9);
            x.need(5, 9);
            for (int i : new int[] {2, -1, 8, LOW, HIGH}) {
                e.due("round(4, " + i + ")", x.round(4, i), -2);
            }
        });
        e.test("8, of 8", () -> {
            ThankedMoves x = new ThankedMoves();
            for (int h = 0; h < 8; h++) {
                x.need(h, 30);
            }
            e.due("round(0, 8)", x.round(0, 8), -2);
        });
        e.test("a house too small or too large", () -> {
            ThankedMoves x = new ThankedMoves();
            x.need(4, 9);
            for (int house : Edges.NO_HOUSES) {
                e.due("round(" + house + ", 0)", x.round(house, 0), -2);
            }
        });
    }

    private void sick() {
        e.at("Promise 38");
        e.says("SICK (bits).");
        e.test("none, each, all", () -> {
            ThankedMoves x = new ThankedMoves();
            e.due("sick()", x.sick(), 0);
            for (int h = 0; h < 8; h++) {
                x.need(h, h == 0 ? 0 : 30);
                e.due("sick()", x.sick(), (2 << h) - 1);
            }
            x.need(0, NONE);
            e.due("sick()", x.sick(), 254);
        });
    }

    private void beside() {
        e.at("Promise 39");
        e.says("BESIDE: PEOPLE (bits).");
        e.test("all in one house", () -> {
            ThankedMoves x = peopleIn(7, 7, 7, 7, 7);
            e.due("beside(0)", x.beside(0), 30);
            e.due("beside(4)", x.beside(4), 15);
        });
        e.test("1 and 2 along, on either side", () -> {
            ThankedMoves x = peopleIn(3, 2, 4, 1, 5);
            e.due("beside(0)", x.beside(0), 6);
        });
        e.test("houses 0 and 1, 6 and 7", () -> {
            ThankedMoves x = peopleIn(1, 0, 6, 7);
            int[] due = {2, 1, 8, 4};
            for (int p = 0; p < 4; p++) {
                e.due("beside(" + p + ")", x.beside(p), due[p]);
            }
        });
        e.test("0 for one alone, and one off", () -> {
            ThankedMoves x = peopleIn(7, 0, 7);
            e.due("beside(1)", x.beside(1), 0);
            sendOff(x);
            e.due("beside(0)", x.beside(0), 0);
            e.due("beside(1)", x.beside(1), 0);
        });
        e.says("NONE for others.");
        e.test("-1, and 1 beyond the last", () -> {
            ThankedMoves x = peopleIn(3, 4);
            for (int person : new int[] {-1, 2, 5, LOW, HIGH}) {
                e.due("beside(" + person + ")", x.beside(person), NONE);
            }
            e.due("where there is nobody", new ThankedMoves().beside(0), NONE);
        });
    }

    private void alone() {
        e.at("Promise 40");
        e.says("ALONE (bits).");
        e.test("nobody, one, all apart", () -> {
            e.due("alone()", new ThankedMoves().alone(), 0);
            e.due("alone()", peopleIn(0).alone(), 1);
            e.due("alone()", peopleIn(0, 2, 4, 7).alone(), 15);
        });
        e.test("beside, in one house, 0 and 7", () -> {
            e.due("alone()", peopleIn(3, 4).alone(), 0);
            e.due("alone()", peopleIn(3, 3).alone(), 0);
            e.due("alone()", peopleIn(0, 7).alone(), 3);
        });
        e.test("one off is not alone, and leaves another alone", () -> {
            ThankedMoves x = peopleIn(7, 6);
            e.due("alone()", x.alone(), 0);
            sendOff(x);
            e.due("alone()", x.alone(), 2);
        });
    }

    private void spread() {
        e.at("Promise 41");
        e.says("SPREAD.");
        e.test("0 without two, 0 of two in a house", () -> {
            e.due("spread()", new ThankedMoves().spread(), 0);
            e.due("spread()", peopleIn(7).spread(), 0);
            e.due("spread()", peopleIn(5, 5).spread(), 0);
        });
        e.test("7 is the most", () -> e.due("spread()", peopleIn(7, 3, 0).spread(), 7));
        e.test("one off aside", () -> {
            ThankedMoves x = peopleIn(7, 3, 0);
            sendOff(x);
            e.due("spread()", x.spread(), 3);
        });
        e.test("all off", () -> {
            ThankedMoves x = peopleIn(7, 7);
            sendOff(x);
            e.due("spread()", x.spread(), 0);
        });
    }

    private void crowded() {
        e.at("Promise 42");
        e.says("CROWDED.");
        e.test("one; of like ones the lowest; more in a higher one", () -> {
            e.due("crowded()", peopleIn(7).crowded(), 7);
            e.due("crowded()", peopleIn(7, 0).crowded(), 0);
            e.due("crowded()", peopleIn(7, 0, 7).crowded(), 7);
            e.due("crowded()", peopleIn(5, 2, 5, 2, 0).crowded(), 2);
        });
        e.says("NONE: nobody is there.");
        e.test("nobody told", () -> e.due("crowded()", new ThankedMoves().crowded(), NONE));
        e.test("all are off", () -> {
            ThankedMoves x = peopleIn(7, 7);
            sendOff(x);
            e.due("crowded()", x.crowded(), NONE);
        });
    }

    private void empty() {
        e.at("Promise 43");
        e.says("EMPTY (bits).");
        e.test("all; all but each", () -> {
            e.due("empty()", new ThankedMoves().empty(), 255);
            for (int h = 0; h < 8; h++) {
                e.due("empty()", peopleIn(h).empty(), 255 - (1 << h));
            }
        });
        e.test("5 in 5 houses", () -> e.due("empty()", peopleIn(0, 1, 2, 3, 4).empty(), 224));
        e.test("all are off", () -> {
            ThankedMoves x = peopleIn(7, 7);
            sendOff(x);
            e.due("empty()", x.empty(), 255);
        });
    }

    private void said() {
        e.at("Promise 44");
        e.says("SAID: how many there are (house NONE: none any more).");
        e.test("0 and 9, houses 0 and 7, up to 8", () -> {
            ThankedMoves x = new ThankedMoves();
            for (int i = 1; i <= 8; i++) {
                e.due("said", x.said(i % 2 * 7, i % 2 * 9), i);
                e.due("about(5)", x.about(5), i);
            }
        });
        e.test("NONE, of none, of some, of 8", () -> {
            ThankedMoves x = new ThankedMoves();
            for (int n : new int[] {0, 3, 8}) {
                for (int i = 0; i < n; i++) {
                    x.said(i, 1);
                }
                e.due("said(NONE, 0)", x.said(NONE, 0), 0);
                e.due("about(5)", x.about(5), 0);
            }
            e.due("anew", x.said(0, 0), 1);
        });
        e.test("the same one twice is two", () -> {
            ThankedMoves x = new ThankedMoves();
            x.said(3, 3);
            e.due("said(3, 3)", x.said(3, 3), 2);
        });
        e.says("-2 for others (0 .. 9), or if there are 8.");
        e.test("-1 and 10", () -> {
            ThankedMoves x = new ThankedMoves();
            for (int holds : new int[] {-1, 10, LOW, HIGH}) {
                e.refused(x, "said(3, " + holds + ")", () -> x.said(3, holds), -2);
            }
        });
        e.test("a house of -2 and 8", () -> {
            ThankedMoves x = new ThankedMoves();
            x.said(3, 3);
            for (int house : new int[] {-2, 8, LOW, HIGH}) {
                e.refused(x, "said(" + house + ", 0)", () -> x.said(house, 0), -2);
            }
        });
        e.test("a ninth", () -> {
            ThankedMoves x = new ThankedMoves();
            for (int i = 0; i < 8; i++) {
                x.said(i, 1);
            }
            e.refused(x, "said(0, 0)", () -> x.said(0, 0), -2);
        });
    }

    private void whose() {
        e.at("Promise 45");
        e.says("WHOSE LAW (bits).");
        e.test("no text, with and without something SAID", () -> {
            ThankedMoves x = new ThankedMoves();
            e.due("whose()", x.whose(), 0);
            x.said(3, 0);
            e.due("whose()", x.whose(), 0);
        });
        e.test("nothing SAID any more", () -> {
            ThankedMoves x = Check.street("holds 3;");
            x.said(3, 4);
            e.due("whose()", x.whose(), 0);
            x.said(NONE, 0);
            e.due("whose()", x.whose(), 1);
        });
        e.test("the first, the last, none of 4", () -> {
            ThankedMoves x = new ThankedMoves();
            for (int i = 0; i < 4; i++) {
                Check.text(x, "holds " + i + ";");
            }
            x.said(7, 0);
            e.due("whose()", x.whose(), 1);
            x.said(NONE, 0);
            x.said(0, 3);
            e.due("whose()", x.whose(), 8);
            x.said(0, 2);
            e.due("whose()", x.whose(), 0);
        });
        e.test("texts that are gone by back() are none", () -> {
            ThankedMoves x = Check.street("holds 3;");
            x.back();
            x.said(0, 3);
            e.due("whose()", x.whose(), 0);
        });
    }

    private void ready() {
        e.at("Promise 46");
        e.says("READY (bits).");
        e.test("1 and 2 in each", () -> {
            ThankedMoves x = EdgesParts.ones();
            e.due("ready()", x.ready(), 0);
            for (int h = 0; h < 8; h++) {
                x.kind(h, 2);
                e.due("ready()", x.ready(), (2 << h) - 1);
            }
        });
        e.test("10 and 11 where 9 is held", () -> {
            e.due("ready()", Check.street("holds 9;", 10, 11, 10, 10, 10, 10, 10, 11).ready(), 130);
        });
    }

    private void balance() {
        e.at("Promise 47");
        e.says("BALANCE.");
        e.test("0: nothing, and as much", () -> {
            e.due("balance()", new ThankedMoves().balance(), 0);
            e.due("balance()", EdgesParts.ones().balance(), 0);
        });
        e.test("each house on its side", () -> {
            for (int h = 0; h < 8; h++) {
                ThankedMoves x = new ThankedMoves();
                x.kind(h, 5);
                e.due("balance()", x.balance(), h < 4 ? 5 : -5);
            }
        });
        e.test("the most and the least that can be told", () -> {
            e.due("balance()", Check.street(null, 40, 40, 40, 40).balance(), 160);
            e.due("balance()", Check.street(null, 0, 0, 0, 0, 40, 40, 40, 40).balance(), -160);
        });
    }

    private void middle() {
        e.at("Promise 48");
        e.says("MIDDLE.");
        e.test("half just reached, and just not", () -> {
            e.due("middle()", Check.street(null, 3, 0, 0, 0, 0, 0, 0, 3).middle(), 0);
            e.due("middle()", Check.street(null, 3, 0, 0, 0, 0, 0, 0, 4).middle(), 7);
            e.due("middle()", Check.street(null, 0, 3, 0, 1, 0, 3).middle(), 3);
        });
        e.test("half of 1 is not none", () -> {
            e.due("middle()", Check.street(null, 0, 0, 0, 0, 0, 0, 0, 1).middle(), 7);
            e.due("middle()", Check.street(null, 0, 1).middle(), 1);
        });
        e.says("NONE: none.");
        e.test("no KINDNESS", () -> e.due("middle()", new ThankedMoves().middle(), NONE));
        e.test("no KINDNESS any more", () -> {
            ThankedMoves x = Check.street(null, 3);
            x.kind(0, 0);
            e.due("middle()", x.middle(), NONE);
        });
    }

    private void kindest() {
        e.at("Promise 49");
        e.says("KINDEST.");
        e.test("each house, with 1", () -> {
            for (int h = 0; h < 8; h++) {
                ThankedMoves x = new ThankedMoves();
                x.kind(h, 1);
                e.due("kindest()", x.kindest(), h);
            }
        });
        e.test("of like ones the lowest, and 1 more", () -> {
            e.due("kindest()", EdgesParts.ones().kindest(), 0);
            e.due("kindest()", Check.street(null, 4, 4, 0, 0, 0, 0, 0, 5).kindest(), 7);
        });
        e.says("NONE: none.");
        e.test("no KINDNESS", () -> e.due("kindest()", new ThankedMoves().kindest(), NONE));
    }

    private void travelled() {
        e.at("Promise 50");
        e.says("MOST TRAVELLED.");
        e.test("PERSON 4, once", () -> {
            ThankedMoves x = peopleIn(0, 0, 0, 0, 5);
            x.kind(5, 2);
            x.thank(5);
            e.due("travelled()", x.travelled(), 4);
        });
        e.test("of like ones the lowest", () -> {
            ThankedMoves x = peopleIn(0, 5, 5, 5, 5);
            x.kind(5, 2);
            x.thank(5);
            e.due("travelled()", x.travelled(), 1);
        });
        e.test("though it is off", () -> {
            ThankedMoves x = peopleIn(7, 5);
            sendOff(x);
            e.due("travelled()", x.travelled(), 0);
        });
        e.says("NONE: none.");
        e.test("nobody, nobody moved, and all taken back", () -> {
            ThankedMoves x = new ThankedMoves();
            e.due("travelled()", x.travelled(), NONE);
            x.person(3);
            e.due("travelled()", x.travelled(), NONE);
            x.kind(3, 2);
            x.thank(3);
            e.due("travelled()", x.travelled(), 0);
            x.undo();
            e.due("travelled()", x.travelled(), NONE);
        });
    }

    private void ledger() {
        e.at("Promise 51");
        e.says("BY THE BOOK.");
        e.test("0, 8, and all", () -> {
            ThankedMoves x = new ThankedMoves();
            e.due("ledger(NONE)", x.ledger(NONE), 0);
            Edges.journey(x, 8);
            x.person(3);
            e.due("ledger(0)", x.ledger(0), 8);
            e.due("ledger(1)", x.ledger(1), 0);
            e.due("ledger(NONE)", x.ledger(NONE), 8);
        });
        e.test("30 of 31", () -> {
            ThankedMoves x = new ThankedMoves();
            Edges.journey(x, 31);
            e.due("ledger(NONE)", x.ledger(NONE), 30);
            e.due("ledger(0)", x.ledger(0), 7);
            e.due("ledger(3)", x.ledger(3), 7);
        });
        e.says("-2 for others.");
        e.test("-2, and 1 beyond the last", () -> {
            ThankedMoves x = peopleIn(3, 4);
            for (int person : new int[] {-2, 2, 5, LOW, HIGH}) {
                e.due("ledger(" + person + ")", x.ledger(person), -2);
            }
            e.due("where there is nobody", new ThankedMoves().ledger(0), -2);
        });
    }

    private void image() {
        e.at("Promise 52");
        e.says("THE IMAGE is as all is now: NIGHT.");
        e.test("NIGHT 0 and 9999", () -> {
            e.due("image()", new ThankedMoves().image(), 0);
            e.due("image()", Edges.inNight(9999).image(), 9999);
        });
        e.test("the latest counts", () -> {
            ThankedMoves x = new ThankedMoves();
            x.kind(3, 1);
            x.image();
            x.kind(3, 2);
            x.image();
            x.kind(3, 3);
            x.back();
            e.due("of(3, 0)", x.of(3, 0), 2);
        });
        e.test("it changes nothing, and is no STEP", () -> {
            ThankedMoves x = Check.street("holds 1;", 1, 2, 3);
            x.person(3);
            x.night(2);
            e.refused(x, "image()", x::image, 2);
        });
        e.test("what is told since is not in it, not even in its STEPS", () -> {
            ThankedMoves x = new ThankedMoves();
            x.good(3, 1);
            x.image();
            x.kind(5, 33);
            x.person(5);
            x.back();
            x.undo();
            e.due("of(5, 0)", x.of(5, 0), 0);
            e.due("about(0)", x.about(0), 0);
        });
    }

    private void back() {
        e.at("Promise 53");
        e.says("BACK to THE IMAGE (it stays): NIGHT.");
        e.test("of a new object", () -> {
            ThankedMoves x = new ThankedMoves();
            x.night(3);
            e.due("back()", x.back(), 0);
            e.due("is(0)", x.is(0), 0);
            e.due("is(1)", x.is(1), 347);
        });
        e.test("it stays: again and again", () -> {
            ThankedMoves x = Check.street(null, 1, 2, 3);
            x.person(2);
            x.night(1);
            x.image();
            String before = Edges.state(x);
            for (int i = 0; i < 3; i++) {
                x.settle();
                x.night(1 + i);
                x.kind(6, 30 + i);
                x.undo();
                e.due("back()", x.back(), 1);
                e.same("all", Edges.state(x), before);
            }
        });
        e.test("from NIGHT 9999, and to it", () -> {
            ThankedMoves x = Edges.inNight(9999);
            x.image();
            x.undo();
            e.due("back()", x.back(), 9999);
            e.refused(x, "night(1)", () -> x.night(1), NONE);
            ThankedMoves y = Edges.inNight(9999);
            e.due("back()", y.back(), 0);
            e.due("night(1)", y.night(1), 0);
        });
        e.test("it is no STEP, and none can undo it", () -> {
            ThankedMoves x = new ThankedMoves();
            x.good(3, 3);
            x.back();
            e.refused(x, "undo()", x::undo, NONE);
        });
        e.test("there is room again: for PEOPLE, TEXTS, SAID", () -> {
            ThankedMoves x = new ThankedMoves();
            for (int i = 0; i < 8; i++) {
                x.person(i);
                x.said(i, i);
                Check.text(x, "holds " + i + ";");
            }
            x.back();
            e.due("person(0)", x.person(0), 0);
            e.due("said(0, 0)", x.said(0, 0), 1);
            e.due("text()", Check.text(x, "holds 8;"), 0);
            x.by(0);
            e.due("of(0, 2)", x.of(0, 2), 8);
        });
    }

    private void about() {
        e.at("Promise 54");
        e.says("0 PEOPLE, 1 TEXTS, 2 THE TEXT (NONE), 3 STEPS that can be taken back, 4 NEEDS (bits), 5 SAID, 6 bytes of the tape.");
        e.test("of a new object", () -> {
            int[] due = {0, 0, NONE, 0, 0, 0, 0};
            for (int what = 0; what < 7; what++) {
                e.due("about(" + what + ")", new ThankedMoves().about(what), due[what]);
            }
        });
        e.test("the most of each", () -> {
            ThankedMoves x = new ThankedMoves();
            for (int i = 0; i < 8; i++) {
                x.person(i);
                Check.text(x, "holds 1;");
                x.need(i, 30);
                x.said(i, 1);
            }
            x.by(3);
            x.night(60);
            x.end(0);
            for (int i = 0; i < 16; i++) {
                x.feed(0, 0, 0, 0, 0);
            }
            x.person(0);
            x.said(0, 0);
            int[] due = {5, 4, 3, 30, 255, 8, 300};
            for (int what = 0; what < 7; what++) {
                e.due("about(" + what + ")", x.about(what), due[what]);
            }
        });
        e.test("PEOPLE that are off are PEOPLE", () -> {
            ThankedMoves x = peopleIn(7, 7);
            sendOff(x);
            e.due("about(0)", x.about(0), 2);
        });
        e.says("-2 for others.");
        e.test("-1 and 7", () -> {
            for (int what : new int[] {-1, 7, LOW, HIGH}) {
                e.due("about(" + what + ")", new ThankedMoves().about(what), -2);
            }
        });
    }
}
