/** Boundary cases that the document's Terms (part I) name. */
final class EdgesTerms {
    private static final int NONE = ThankedMoves.NONE;
    private final Edges e;

    EdgesTerms(Edges edges) {
        e = edges;
    }

    void run() {
        e.at("I");
        houses();
        people();
        beginnings();
        book();
        good();
        thanked();
        moved();
        settled();
        snow();
        gifts();
        nights();
        steps();
        takenBack();
        toldSince();
    }

    private void houses() {
        e.says("HOUSES 0 .. 7 in a row: KINDNESS (told: 0 .. 40; at first 0).");
        e.test("at first 0 in each", () -> e.same("kindness", Check.kinds(new ThankedMoves()), "00000000"));
        e.test("houses 0 and 7", () -> {
            ThankedMoves x = new ThankedMoves();
            e.due("kind(0, 1)", x.kind(0, 1), true);
            e.due("kind(7, 2)", x.kind(7, 2), true);
            e.same("kindness", Check.kinds(x), "10000002");
        });
        e.test("no house below 0 or above 7", () -> {
            ThankedMoves x = new ThankedMoves();
            for (int house : Edges.NO_HOUSES) {
                e.due("of(" + house + ", 0)", x.of(house, 0), NONE);
            }
        });
        e.test("told 0 and 40", () -> {
            ThankedMoves x = new ThankedMoves();
            e.due("kind(3, 40)", x.kind(3, 40), true);
            e.due("of(3, 0)", x.of(3, 0), 40);
            e.due("kind(3, 0)", x.kind(3, 0), true);
            e.due("of(3, 0)", x.of(3, 0), 0);
        });
        e.test("not told -1 and 41", () -> {
            ThankedMoves x = new ThankedMoves();
            e.refused(x, "kind(3, -1)", () -> x.kind(3, -1));
            e.refused(x, "kind(3, 41)", () -> x.kind(3, 41));
        });
    }

    private void people() {
        e.says("PEOPLE 0 .. 4 (told one by one): in a HOUSE, or off the street.");
        e.test("0 is the first, 4 the last", () -> {
            ThankedMoves x = new ThankedMoves();
            for (int p = 0; p < 5; p++) {
                e.due("person(" + p + ")", x.person(p), p);
                e.due("about(0)", x.about(0), p + 1);
            }
            e.due("a sixth", x.person(5), NONE);
        });
        e.test("in house 0 and in house 7", () -> {
            ThankedMoves x = new ThankedMoves();
            x.person(0);
            x.person(7);
            e.due("ofPerson(0)", x.ofPerson(0), 0);
            e.due("ofPerson(1)", x.ofPerson(1), 7);
        });
        e.test("off the street", () -> {
            ThankedMoves x = Check.street(null, 0, 0, 0, 0, 0, 0, 0, 2);
            x.person(7);
            x.thank(7);
            e.due("ofPerson(0)", x.ofPerson(0), NONE);
            e.due("it is one of the people yet", x.about(0), 1);
        });
    }

    private void beginnings() {
        e.says("KINDNESS gone (at first 0).");
        e.test("at first", () -> e.due("is(3)", new ThankedMoves().is(3), 0));
        e.says("SNOW 0, 1 (at first 0).");
        e.test("at first", () -> e.due("is(2)", new ThankedMoves().is(2), 0));
        e.test("1 in snow, 0 behind it", () -> {
            ThankedMoves x = new ThankedMoves();
            x.years(0, 1);
            e.due("is(2)", x.is(2), 1);
            x.night(1);
            e.due("is(2)", x.is(2), 0);
        });
        e.says("NIGHT 0 .. 9999 (at first 0).");
        e.test("at first", () -> e.due("is(0)", new ThankedMoves().is(0), 0));
        e.test("9999 is the last", () -> {
            ThankedMoves x = Edges.inNight(9999);
            e.due("is(0)", x.is(0), 9999);
            x.night(1);
            e.due("is(0)", x.is(0), 9999);
        });
        e.says("X: at first 347.");
        e.test("at first", () -> e.due("is(1)", new ThankedMoves().is(1), 347));
    }

    private void book() {
        e.says("BOOK (the latest 30): NIGHT, PERSON, the HOUSE it came to.");
        e.test("empty", () -> e.due("book(NONE, 0)", new ThankedMoves().book(NONE, 0), 0));
        e.test("30 are all there", () -> {
            ThankedMoves x = new ThankedMoves();
            Edges.journey(x, 30);
            e.due("book(NONE, 0)", x.book(NONE, 0), 30);
            e.due("the eldest came to", x.book(0, 2), 1);
            e.due("the latest came to", x.book(29, 2), 6);
        });
        e.test("of 31 the eldest is out", () -> {
            ThankedMoves x = new ThankedMoves();
            Edges.journey(x, 31);
            e.due("book(NONE, 0)", x.book(NONE, 0), 30);
            for (int i = 0; i < 30; i++) {
                int house = (i + 1) % 8;
                e.due("book(" + i + ", 1)", x.book(i, 1), (i + 1) / 8);
                e.due("book(" + i + ", 2)", x.book(i, 2), house == 7 ? NONE : house + 1);
            }
        });
        e.test("NIGHT 0, and 9999", () -> {
            ThankedMoves x = new ThankedMoves();
            x.kind(2, 2);
            x.person(2);
            x.thank(2);
            e.due("book(0, 0)", x.book(0, 0), 0);
            Edges.passTo(x, 9999);
            for (int p = 1; p < 5; p++) {
                x.person(6);
            }
            x.kind(6, 2);
            x.thank(6);
            int written = x.book(NONE, 0);
            for (int p = 1; p < 5; p++) {
                e.due("NIGHT", x.book(written - 5 + p, 0), 9999);
                e.due("PERSON", x.book(written - 5 + p, 1), p);
                e.due("HOUSE", x.book(written - 5 + p, 2), 7);
            }
        });
        e.test("moved by a NIGHT: its number, not the next", () -> {
            ThankedMoves x = Check.street(null, 0, 0, 1);
            x.person(2);
            x.night(1);
            e.due("book(NONE, 0)", x.book(NONE, 0), 1);
            e.due("book(0, 0)", x.book(0, 0), 0);
        });
    }

    private void good() {
        e.says("GOOD done in a HOUSE: its KINDNESS is more (99 at most).");
        e.test("to 99", () -> {
            ThankedMoves x = new ThankedMoves();
            Check.enrich(x, 3, 80);
            e.due("good(3, 19)", x.good(3, 19), true);
            e.due("of(3, 0)", x.of(3, 0), 99);
        });
        e.test("not to 100", () -> {
            ThankedMoves x = new ThankedMoves();
            Check.enrich(x, 3, 80);
            e.refused(x, "good(3, 20)", () -> x.good(3, 20));
            x.good(3, 19);
            e.refused(x, "good(3, 1)", () -> x.good(3, 1));
        });
        e.test("thanks bring more than 99; no good is done there then", () -> {
            ThankedMoves x = new ThankedMoves();
            Check.enrich(x, 3, 99);
            x.kind(2, 2);
            e.due("thank(2)", x.thank(2), true);
            e.due("of(3, 0)", x.of(3, 0), 100);
            e.refused(x, "good(3, 1)", () -> x.good(3, 1));
        });
    }

    private void thanked() {
        e.says("THANKED: a HOUSE that has 2 more KINDNESS than holds says, or more than that: it has 2 less, each HOUSE beside has 1 more");
        e.test("0 and 1 more are too few", () -> {
            ThankedMoves x = Check.street(null, 0, 1);
            e.refused(x, "thank(0)", () -> x.thank(0));
            e.refused(x, "thank(1)", () -> x.thank(1));
        });
        e.test("2 more", () -> {
            ThankedMoves x = Check.street(null, 0, 0, 2);
            e.due("thank(2)", x.thank(2), true);
            e.same("kindness", Check.kinds(x), "01010000");
        });
        e.test("more than that", () -> {
            ThankedMoves x = Check.street(null, 0, 0, 3, 0, 40);
            e.due("thank(2)", x.thank(2), true);
            e.due("thank(4)", x.thank(4), true);
            e.same("kindness", Check.kinds(x), "0112[38]100");
        });
        e.test("1 and 2 more than a law holds", () -> {
            ThankedMoves x = Check.street("holds 4;", 5, 0, 6);
            e.refused(x, "thank(0)", () -> x.thank(0));
            e.due("thank(2)", x.thank(2), true);
        });
        e.test("1 and 2 more than 9, the most that is held", () -> {
            ThankedMoves x = Check.street("holds 9999;", 10, 0, 11);
            e.refused(x, "thank(0)", () -> x.thank(0));
            e.due("thank(2)", x.thank(2), true);
        });
        e.says("(from 0 to the left, from 7 to the right: it is gone)");
        e.test("from 0", () -> {
            ThankedMoves x = Check.street(null, 2);
            x.thank(0);
            e.same("kindness", Check.kinds(x), "01000000");
            e.due("is(3)", x.is(3), 1);
        });
        e.test("from 7", () -> {
            ThankedMoves x = Check.street(null, 0, 0, 0, 0, 0, 0, 0, 2);
            x.thank(7);
            e.same("kindness", Check.kinds(x), "00000010");
            e.due("is(3)", x.is(3), 1);
        });
        e.test("from 1 and 6 nothing is gone", () -> {
            ThankedMoves x = Check.street(null, 0, 2, 0, 0, 0, 0, 2);
            x.thank(1);
            x.thank(6);
            e.same("kindness", Check.kinds(x), "10100101");
            e.due("is(3)", x.is(3), 0);
        });
    }

    private void moved() {
        e.says("PEOPLE in it, by number, come to the HOUSE to the right (from 7: off the street); each is written down.");
        e.test("from 0 and from 6", () -> {
            ThankedMoves x = Check.street(null, 2, 0, 0, 0, 0, 0, 2);
            x.person(0);
            x.person(6);
            x.thank(0);
            x.thank(6);
            e.due("ofPerson(0)", x.ofPerson(0), 1);
            e.due("ofPerson(1)", x.ofPerson(1), 7);
        });
        e.test("from 7", () -> {
            ThankedMoves x = Check.street(null, 0, 0, 0, 0, 0, 0, 0, 2);
            x.person(7);
            x.thank(7);
            e.due("ofPerson(0)", x.ofPerson(0), NONE);
            e.due("written: off", x.book(0, 2), NONE);
        });
        e.test("who is off is not thanked any more", () -> {
            ThankedMoves x = Check.street(null, 2, 0, 0, 0, 0, 0, 0, 4);
            x.person(7);
            x.thank(7);
            x.thank(7);
            x.thank(0);
            e.due("ofPerson(0)", x.ofPerson(0), NONE);
            e.due("book(NONE, 0)", x.book(NONE, 0), 1);
        });
        e.test("by number, and nobody from beside", () -> {
            ThankedMoves x = Check.street(null, 0, 0, 0, 2);
            int[] homes = {3, 2, 3, 4, 3};
            for (int home : homes) {
                x.person(home);
            }
            x.thank(3);
            e.due("book(NONE, 0)", x.book(NONE, 0), 3);
            for (int i = 0; i < 3; i++) {
                e.due("book(" + i + ", 1)", x.book(i, 1), 2 * i);
            }
            e.due("ofPerson(1)", x.ofPerson(1), 2);
            e.due("ofPerson(3)", x.ofPerson(3), 4);
        });
        e.test("an empty house: nothing is written", () -> {
            ThankedMoves x = Check.street(null, 0, 0, 0, 2);
            x.person(4);
            x.thank(3);
            e.due("book(NONE, 0)", x.book(NONE, 0), 0);
        });
    }

    private void settled() {
        e.says("SETTLED: the lowest HOUSE that can be THANKED is, once, again and again, until none can.");
        e.test("the lowest, once, then the lowest again", () -> {
            // 2, then 1, 2, 3, 2, 1, 0: twice in a row none of them
            ThankedMoves x = Check.street(null, 0, 1, 4);
            x.person(2);
            x.person(1);
            e.due("settle()", x.settle(), 7);
            e.same("kindness", Check.kinds(x), "01111000");
            e.due("is(3)", x.is(3), 1);
            int[][] book = {{0, 3}, {1, 2}, {1, 3}, {0, 4}, {1, 4}};
            for (int i = 0; i < book.length; i++) {
                e.due("book(" + i + ", 1)", x.book(i, 1), book[i][0]);
                e.due("book(" + i + ", 2)", x.book(i, 2), book[i][1]);
            }
        });
        e.test("houses 0 and 7", () -> {
            ThankedMoves x = Check.street(null, 2, 0, 0, 0, 0, 0, 0, 2);
            x.person(7);
            x.person(0);
            e.due("settle()", x.settle(), 2);
            e.due("0 ahead of 7", x.book(0, 1), 1);
            e.same("kindness", Check.kinds(x), "01000010");
        });
        e.test("until none can", () -> {
            ThankedMoves x = new ThankedMoves();
            for (int h = 0; h < 8; h++) {
                Check.enrich(x, h, 99);
            }
            x.settle();
            e.due("ready()", x.ready(), 0);
            e.due("all that was", x.is(3) + x.is(5), 8 * 99);
            for (int h = 0; h < 8; h++) {
                e.due("of(" + h + ", 0) is 0 or 1", x.of(h, 0) / 2, 0);
            }
        });
        e.test("a low house that can once a far one was thanked is next", () -> {
            ThankedMoves x = Check.street("holds if house 7>9 then 9 else 0 end;", 2, 0, 0, 0, 0, 2, 0, 11);
            x.person(5);
            x.person(0);
            x.person(7);
            x.settle();
            e.due("7 first", x.book(0, 1), 2);
            e.due("then 0", x.book(1, 1), 1);
        });
        e.test("the house to the left that can then", () -> {
            // house 1 holds the kindness of 2, which is 2 less once 2 was thanked
            ThankedMoves x = Check.street("holds if here=1 then right else 0 end;", 0, 2, 2, 0, 0, 2);
            x.person(5);
            x.person(1);
            x.settle();
            e.due("1 ahead of 5", x.book(0, 1), 1);
        });
        e.test("the second house to the left that can then", () -> {
            // house 1 holds all until 2, which is beside it, has something of 3
            ThankedMoves x = Check.street("holds if here=1 and right=0 then 9 else 0 end;", 0, 2, 0, 2, 0, 2);
            x.person(5);
            x.person(1);
            x.settle();
            e.due("1 ahead of 5", x.book(0, 1), 1);
        });
    }

    /** A street whose next draw is X mod 10 for a NIGHT: years by that seed settle nothing. */
    private ThankedMoves drawing(int seed, int drawn) {
        ThankedMoves x = new ThankedMoves();
        x.years(seed, 1);
        e.due("the next draw by 10", x.is(1) % 10, drawn);
        x.night(1);
        return x;
    }

    private void snow() {
        e.says("A NIGHT: a draw by 10 (X mod 10, X being (X * 599 + 463) mod 30839 then): below 3 it is SNOW, else not.");
        e.test("0 is snow", () -> e.due("is(2)", drawing(47, 0).is(2), 1));
        e.test("2 is snow", () -> e.due("is(2)", drawing(5, 2).is(2), 1));
        e.test("3 is none", () -> e.due("is(2)", drawing(20, 3).is(2), 0));
        e.test("9 is none", () -> e.due("is(2)", drawing(17, 9).is(2), 0));
        e.test("two draws", () -> {
            ThankedMoves x = new ThankedMoves();
            x.night(1);
            e.due("is(1) behind 347 and 23282", x.is(1), 7153);
        });
        e.test("X 30838, the highest, wraps", () -> {
            ThankedMoves x = new ThankedMoves();
            x.years(9119, 1);
            e.due("is(1)", x.is(1), 30838);
            x.night(1);
            e.due("is(1) behind 30703", x.is(1), 11516);
            e.same("the gift of 30703 is in 7", Check.kinds(x), "00000001");
        });
    }

    /** How much there is in all behind a NIGHT whose gifts of 9 go to house 2, which has so much. */
    private int givenTo(int kindness) {
        ThankedMoves x = Check.street("holds 9;gifts 9;");
        Check.enrich(x, 2, Math.min(kindness, 99));
        if (kindness > 99) {
            x.kind(1, 11);
            x.thank(1);
            x.kind(0, 0);
            x.kind(1, 0);
        }
        e.due("of(2, 0)", x.of(2, 0), kindness);
        x.night(1);
        return x.is(3) + x.is(5);
    }

    private void gifts() {
        e.says("A draw by 8: that HOUSE has gifts more KINDNESS (not beyond 99; one that has more keeps it).");
        e.test("0 and 7", () -> {
            e.same("kindness", Check.kinds(drawing(50, 4)), "10000000");
            e.same("kindness", Check.kinds(drawing(68, 9)), "00000001");
        });
        e.test("gifts of 0", () -> {
            ThankedMoves x = Check.street("gifts 0;");
            x.night(1);
            e.same("kindness", Check.kinds(x), "00000000");
        });
        e.test("gifts of 9, the most", () -> e.due("in all", givenTo(0), 9));
        e.test("90 and 9 are 99", () -> e.due("in all", givenTo(90), 99));
        e.test("91 and 9 are 99", () -> e.due("in all", givenTo(91), 99));
        e.test("98 and 9 are 99", () -> e.due("in all", givenTo(98), 99));
        e.test("99 stays", () -> e.due("in all", givenTo(99), 99));
        e.test("100 stays", () -> e.due("in all", givenTo(100), 100));
        e.says("Then it is SETTLED.");
        e.test("by the gift", () -> {
            ThankedMoves x = Check.street(null, 0, 0, 1);
            x.night(1);
            e.same("kindness", Check.kinds(x), "01010000");
        });
        e.test("elsewhere too", () -> {
            ThankedMoves x = Check.street(null, 0, 0, 0, 0, 0, 0, 2);
            x.night(1);
            e.same("kindness", Check.kinds(x), "00100101");
        });
        e.test("with the new SNOW and the old NIGHT", () -> {
            ThankedMoves x = Check.street("holds if snow=1 then 9 else 0 end;gifts 0;", 2, 0, 2);
            x.years(0, 1);
            e.due("SNOW: all is held", x.is(4), 0);
            ThankedMoves y = Check.street("holds if night=0 then 9 else 0 end;gifts 0;", 2, 0, 2);
            y.night(1);
            e.due("NIGHT 0: all is held", y.is(4), 0);
        });
        e.test("nothing to be done", () -> {
            ThankedMoves x = new ThankedMoves();
            x.night(1);
            e.due("is(4)", x.is(4), 0);
        });
    }

    private void nights() {
        e.says("NIGHT is one more (at 9999 none can pass).");
        e.test("from 0", () -> {
            ThankedMoves x = new ThankedMoves();
            x.night(1);
            e.due("is(0)", x.is(0), 1);
        });
        e.test("from 9998", () -> {
            ThankedMoves x = Edges.inNight(9998);
            e.due("night(1)", x.night(1), 0);
            e.due("is(0)", x.is(0), 9999);
        });
        e.test("from 9999", () -> {
            ThankedMoves x = Edges.inNight(9999);
            e.refused(x, "night(1)", () -> x.night(1), NONE);
        });
    }

    private void steps() {
        e.says("STEPS: GOOD done, THANKED, SETTLED, a NIGHT (each), YEARS (see V): the latest 30 can be taken back, the latest first");
        e.test("each is one", () -> {
            ThankedMoves x = new ThankedMoves();
            x.good(3, 4);
            e.due("good", x.about(3), 1);
            x.thank(3);
            e.due("thank", x.about(3), 2);
            x.settle();
            e.due("settle", x.about(3), 3);
            x.night(1);
            e.due("night", x.about(3), 4);
            x.night(3);
            e.due("3 nights", x.about(3), 7);
            x.years(0, 40);
            e.due("40 years", x.about(3), 8);
        });
        e.test("what is told is none", () -> {
            ThankedMoves x = new ThankedMoves();
            x.kind(3, 4);
            x.person(3);
            x.need(3, 4);
            x.said(3, 4);
            x.by(Check.text(x, "holds 1;"));
            x.image();
            x.back();
            e.due("about(3)", x.about(3), 0);
        });
        e.test("30 can be, the latest first", () -> {
            ThankedMoves x = new ThankedMoves();
            for (int i = 0; i < 30; i++) {
                x.good(i % 8, 1);
            }
            e.due("about(3)", x.about(3), 30);
            e.due("undo()", x.undo(), 29);
            e.same("kindness", Check.kinds(x), "44444333");
            for (int i = 28; i >= 0; i--) {
                e.due("undo()", x.undo(), i);
            }
            e.same("kindness", Check.kinds(x), "00000000");
        });
        e.test("of 31 the eldest can't be", () -> {
            ThankedMoves x = new ThankedMoves();
            x.good(5, 7);
            for (int i = 0; i < 30; i++) {
                x.good(i % 4, 1);
            }
            e.due("about(3)", x.about(3), 30);
            for (int i = 29; i >= 0; i--) {
                e.due("undo()", x.undo(), i);
            }
            e.due("undo()", x.undo(), NONE);
            e.same("kindness", Check.kinds(x), "00000700");
        });
        e.test("of 60 NIGHTS 30 can be", () -> {
            ThankedMoves x = new ThankedMoves();
            x.night(60);
            for (int i = 0; i < 30; i++) {
                x.undo();
            }
            e.due("is(0)", x.is(0), 30);
            e.due("undo()", x.undo(), NONE);
        });
    }

    private void takenBack() {
        e.says("(KINDNESS, PEOPLE's HOUSES, what is gone, SNOW, how many times it was THANKED, NIGHT, X, BOOK are as ahead of it;");
        e.test("YEARS that change all of them", () -> {
            ThankedMoves x = Check.street(null, 3, 1, 0, 0, 0, 0, 1, 1);
            x.person(0);
            x.person(7);
            x.night(3);
            String before = Edges.state(x);
            int snow = x.is(2);
            x.years(0, 1);
            e.due("SNOW changes", x.is(2) != snow, true);
            x.years(9, 40);
            e.due("undo()", x.undo(), 4);
            e.due("undo()", x.undo(), 3);
            e.same("all", Edges.state(x), before);
        });
        e.test("SNOW, both ways", () -> {
            ThankedMoves x = new ThankedMoves();
            x.years(0, 1);
            e.due("is(2)", x.is(2), 1);
            x.undo();
            e.due("is(2)", x.is(2), 0);
            x.years(0, 1);
            x.night(1);
            e.due("is(2)", x.is(2), 0);
            x.undo();
            e.due("is(2)", x.is(2), 1);
        });
        e.test("a PERSON that went off", () -> {
            ThankedMoves x = Check.street(null, 0, 0, 0, 0, 0, 0, 0, 2);
            x.person(7);
            x.thank(7);
            x.undo();
            e.due("ofPerson(0)", x.ofPerson(0), 7);
            e.due("gone", x.is(3), 0);
            e.due("book(NONE, 0)", x.book(NONE, 0), 0);
        });
        e.test("what the BOOK had no room for is in it again", () -> {
            ThankedMoves x = new ThankedMoves();
            Edges.journey(x, 31);
            x.undo();
            e.due("book(NONE, 0)", x.book(NONE, 0), 30);
            e.due("the eldest came to", x.book(0, 2), 1);
            e.due("the latest came to", x.book(29, 2), 6);
        });
        e.test("how many times it was THANKED last NIGHT", () -> {
            ThankedMoves x = Check.street(null, 0, 0, 1);
            x.night(1);
            e.due("is(4)", x.is(4), 1);
            x.night(1);
            e.due("is(4)", x.is(4), 0);
            x.undo();
            e.due("is(4)", x.is(4), 1);
            x.undo();
            e.due("is(4)", x.is(4), 0);
        });
        e.test("NIGHT 9999 can be taken back, and pass again", () -> {
            ThankedMoves x = Edges.inNight(9999);
            int drawn = x.is(1);
            x.undo();
            e.due("is(0)", x.is(0), 9998);
            x.night(1);
            e.due("is(1)", x.is(1), drawn);
        });
        e.test("THE TEXT, NEEDS and SAID stay", () -> {
            ThankedMoves x = new ThankedMoves();
            x.good(3, 1);
            x.by(Check.text(x, "holds 1;"));
            x.need(3, 4);
            x.said(3, 4);
            x.undo();
            e.due("about(1)", x.about(1), 1);
            e.due("about(2)", x.about(2), 0);
            e.due("about(4)", x.about(4), 8);
            e.due("about(5)", x.about(5), 1);
        });
    }

    private void toldSince() {
        e.says("KINDNESS, PEOPLE told since are as told).");
        e.test("KINDNESS told since, of that house alone", () -> {
            ThankedMoves x = Check.street(null, 1, 1, 2);
            x.thank(2);
            x.kind(2, 7);
            x.undo();
            e.same("kindness", Check.kinds(x), "11700000");
        });
        e.test("told 0 since", () -> {
            ThankedMoves x = Check.street(null, 5);
            x.good(0, 1);
            x.kind(0, 0);
            x.undo();
            e.due("of(0, 0)", x.of(0, 0), 0);
        });
        e.test("told ahead of it: not as told, but as ahead of it", () -> {
            ThankedMoves x = new ThankedMoves();
            x.kind(4, 5);
            x.good(4, 3);
            x.good(4, 2);
            x.undo();
            e.due("of(4, 0)", x.of(4, 0), 8);
        });
        e.test("told since, and changed by a later step", () -> {
            ThankedMoves x = new ThankedMoves();
            x.good(4, 3);
            x.kind(4, 9);
            x.good(4, 2);
            x.undo();
            e.due("of(4, 0)", x.of(4, 0), 9);
            x.undo();
            e.due("of(4, 0)", x.of(4, 0), 9);
        });
        e.test("told twice since: as told at last", () -> {
            ThankedMoves x = new ThankedMoves();
            x.good(4, 3);
            x.kind(4, 9);
            x.kind(4, 6);
            x.undo();
            e.due("of(4, 0)", x.of(4, 0), 6);
        });
        e.test("a PERSON told since stays", () -> {
            ThankedMoves x = new ThankedMoves();
            x.good(4, 3);
            x.person(4);
            x.undo();
            e.due("about(0)", x.about(0), 1);
            e.due("ofPerson(0)", x.ofPerson(0), 4);
        });
        e.test("a PERSON told since that has moved since is where it was told", () -> {
            ThankedMoves x = new ThankedMoves();
            x.good(4, 3);
            x.person(4);
            x.thank(4);
            e.due("ofPerson(0)", x.ofPerson(0), 5);
            x.undo();
            e.due("ofPerson(0)", x.ofPerson(0), 4);
            x.undo();
            e.due("ofPerson(0)", x.ofPerson(0), 4);
            e.due("of(4, 0)", x.of(4, 0), 0);
        });
        e.test("30 steps back", () -> {
            ThankedMoves x = new ThankedMoves();
            x.good(0, 1);
            x.kind(6, 40);
            x.person(7);
            for (int i = 0; i < 29; i++) {
                x.good(i % 4, 1);
            }
            for (int i = 0; i < 30; i++) {
                x.undo();
            }
            e.same("kindness", Check.kinds(x), "000000[40]0");
            e.due("ofPerson(0)", x.ofPerson(0), 7);
        });
    }
}
