/** Boundary cases of the promises 16 to 34: what is, what comes, waves, who did it, odds. */
final class EdgesAsked {
    private static final int NONE = ThankedMoves.NONE;
    private static final int LOW = Edges.LOW;
    private static final int HIGH = Edges.HIGH;
    private final Edges e;

    EdgesAsked(Edges edges) {
        e = edges;
    }

    void run() {
        of();
        ofPerson();
        is();
        book();
        foretold();
        rest();
        wave();
        greatest();
        reached();
        waves();
        until();
        mover();
        again();
        period();
        least();
        meet();
        doers();
        likely();
        off();
    }

    /** One with a person at house 7 who went off, and one who is in house 3 yet. */
    private static ThankedMoves oneOff() {
        ThankedMoves x = Check.street(null, 0, 0, 0, 0, 0, 0, 0, 2);
        x.person(7);
        x.person(3);
        x.thank(7);
        return x;
    }

    private void of() {
        e.at("Promise 16");
        e.says("Of a HOUSE: 0 KINDNESS, 1 PEOPLE in it (bits), 2 holds, 3 gifts now, 4 whether it can be THANKED (1, 0).");
        e.test("houses 0 and 7, each what", () -> {
            ThankedMoves x = Check.street("holds here/7*9;gifts 9-here;", 2, 0, 0, 0, 0, 0, 0, 10);
            x.person(7);
            x.person(0);
            x.person(7);
            int[] first = {2, 2, 0, 9, 1};
            int[] last = {10, 5, 9, 2, 0};
            for (int what = 0; what < 5; what++) {
                e.due("of(0, " + what + ")", x.of(0, what), first[what]);
                e.due("of(7, " + what + ")", x.of(7, what), last[what]);
            }
        });
        e.test("KINDNESS 0, 99, and more", () -> {
            ThankedMoves x = new ThankedMoves();
            Check.enrich(x, 3, 99);
            x.kind(2, 2);
            e.due("of(0, 0)", x.of(0, 0), 0);
            e.due("of(3, 0)", x.of(3, 0), 99);
            x.thank(2);
            e.due("of(3, 0)", x.of(3, 0), 100);
        });
        e.test("PEOPLE: nobody, all 5; who is off is in none", () -> {
            ThankedMoves x = oneOff();
            e.due("of(7, 1)", x.of(7, 1), 0);
            e.due("of(0, 1)", x.of(0, 1), 0);
            e.due("of(3, 1)", x.of(3, 1), 2);
            ThankedMoves y = new ThankedMoves();
            for (int p = 0; p < 5; p++) {
                y.person(4);
            }
            e.due("of(4, 1)", y.of(4, 1), 31);
        });
        e.test("4: 1 more and 2 more than it holds", () -> {
            ThankedMoves x = Check.street("holds 3;", 4, 5);
            e.due("of(0, 4)", x.of(0, 4), 0);
            e.due("of(1, 4)", x.of(1, 4), 1);
        });
        e.test("4: 10 and 11 where 9 is held", () -> {
            ThankedMoves x = Check.street("holds 9;", 10, 11);
            e.due("of(0, 4)", x.of(0, 4), 0);
            e.due("of(1, 4)", x.of(1, 4), 1);
        });
        e.says("NONE for others.");
        e.test("a house too small or too large", () -> {
            ThankedMoves x = new ThankedMoves();
            for (int house : Edges.NO_HOUSES) {
                for (int what = 0; what < 5; what++) {
                    e.due("of(" + house + ", " + what + ")", x.of(house, what), NONE);
                }
            }
        });
        e.test("-1 and 5", () -> {
            ThankedMoves x = new ThankedMoves();
            for (int what : new int[] {-1, 5, LOW, HIGH}) {
                e.due("of(0, " + what + ")", x.of(0, what), NONE);
            }
        });
    }

    private void ofPerson() {
        e.at("Promise 17");
        e.says("The HOUSE of a PERSON.");
        e.test("0 and 4, houses 0 and 7", () -> {
            ThankedMoves x = new ThankedMoves();
            for (int home : new int[] {0, 1, 1, 1, 7}) {
                x.person(home);
            }
            e.due("ofPerson(0)", x.ofPerson(0), 0);
            e.due("ofPerson(4)", x.ofPerson(4), 7);
        });
        e.says("NONE: off the street, -2 for others.");
        e.test("off", () -> e.due("ofPerson(0)", oneOff().ofPerson(0), NONE));
        e.test("-1, and 1 beyond the last", () -> {
            ThankedMoves x = oneOff();
            for (int person : new int[] {-1, 2, 5, LOW, HIGH}) {
                e.due("ofPerson(" + person + ")", x.ofPerson(person), -2);
            }
            e.due("where there is nobody", new ThankedMoves().ofPerson(0), -2);
        });
        e.test("5, where there are 5", () -> {
            ThankedMoves x = new ThankedMoves();
            for (int p = 0; p < 5; p++) {
                x.person(p);
            }
            e.due("ofPerson(5)", x.ofPerson(5), -2);
        });
    }

    private void is() {
        e.at("Promise 18");
        e.says("0 NIGHT, 1 X, 2 SNOW (1, 0), 3 KINDNESS gone, 4 how many times it was THANKED last NIGHT, 5 KINDNESS of all HOUSES.");
        e.test("of a new object", () -> {
            int[] due = {0, 347, 0, 0, 0, 0};
            for (int what = 0; what < 6; what++) {
                e.due("is(" + what + ")", new ThankedMoves().is(what), due[what]);
            }
        });
        e.test("behind a NIGHT of SNOW", () -> {
            // 42000002 with the gifts, settled
            ThankedMoves x = Check.street(null, 4, 0, 0, 0, 0, 0, 0, 2);
            x.years(0, 1);
            int[] due = {1, 29328, 1, 4, 8, 4};
            for (int what = 0; what < 6; what++) {
                e.due("is(" + what + ")", x.is(what), due[what]);
            }
        });
        e.test("4: the last NIGHT of many, not all of them", () -> {
            ThankedMoves x = Check.street("gifts 0;", 2, 2);
            x.night(2);
            e.due("is(4)", x.is(4), 0);
        });
        e.test("4: not what was thanked since", () -> {
            ThankedMoves x = Check.street("gifts 0;", 2);
            x.night(1);
            x.kind(4, 4);
            x.settle();
            e.due("is(4)", x.is(4), 1);
        });
        e.test("5: houses 0 and 7, of the most", () -> {
            ThankedMoves x = Check.street(null, 40, 40, 40, 40, 40, 40, 40, 40);
            e.due("is(5)", x.is(5), 320);
            e.due("is(5)", Check.street(null, 3, 0, 0, 0, 0, 0, 0, 4).is(5), 7);
        });
        e.says("-2 for others.");
        e.test("-1 and 6", () -> {
            for (int what : new int[] {-1, 6, LOW, HIGH}) {
                e.due("is(" + what + ")", new ThankedMoves().is(what), -2);
            }
        });
    }

    private void book() {
        e.at("Promise 19");
        e.says("BOOK: how many (i NONE); the i-th, from the eldest on: 0 NIGHT, 1 PERSON, 2 the HOUSE it came to (NONE: off).");
        e.test("none, 30, and 30 of 31", () -> {
            ThankedMoves x = new ThankedMoves();
            e.due("book(NONE, 0)", x.book(NONE, 0), 0);
            Edges.journey(x, 30);
            e.due("book(NONE, 0)", x.book(NONE, 0), 30);
            x.kind(6, 2);
            x.thank(6);
            e.due("book(NONE, 0)", x.book(NONE, 0), 30);
        });
        e.test("the first and the last of 30", () -> {
            ThankedMoves x = new ThankedMoves();
            Edges.journey(x, 30);
            int[] first = {0, 0, 1};
            int[] last = {0, 3, 6};
            for (int what = 0; what < 3; what++) {
                e.due("book(0, " + what + ")", x.book(0, what), first[what]);
                e.due("book(29, " + what + ")", x.book(29, what), last[what]);
            }
        });
        e.test("off, by the 4th PERSON of NIGHT 1", () -> {
            ThankedMoves x = new ThankedMoves();
            x.night(1);
            for (int p = 0; p < 4; p++) {
                x.person(p);
            }
            x.person(7);
            x.kind(7, 2);
            x.thank(7);
            e.due("book(0, 0)", x.book(0, 0), 1);
            e.due("book(0, 1)", x.book(0, 1), 4);
            e.due("book(0, 2)", x.book(0, 2), NONE);
        });
        e.test("house 7", () -> {
            ThankedMoves x = Check.street(null, 0, 0, 0, 0, 0, 0, 2);
            x.person(6);
            x.thank(6);
            e.due("book(0, 2)", x.book(0, 2), 7);
        });
        e.says("-2 if there is none such, and for others.");
        e.test("the first of none", () -> e.due("book(0, 0)", new ThankedMoves().book(0, 0), -2));
        e.test("1 beyond the last, and -2", () -> {
            ThankedMoves x = new ThankedMoves();
            Edges.journey(x, 3);
            for (int i : new int[] {3, -2, 30, LOW, HIGH}) {
                e.due("book(" + i + ", 0)", x.book(i, 0), -2);
            }
        });
        e.test("30, where there are 30", () -> {
            ThankedMoves x = new ThankedMoves();
            Edges.journey(x, 31);
            e.due("book(30, 0)", x.book(30, 0), -2);
        });
        e.test("what of -1 and 3", () -> {
            ThankedMoves x = new ThankedMoves();
            Edges.journey(x, 3);
            for (int what : new int[] {-1, 3, LOW, HIGH}) {
                e.due("book(0, " + what + ")", x.book(0, what), -2);
            }
        });
    }

    private void foretold() {
        e.at("Promise 20");
        e.says("FORETOLD: 0 KINDNESS of a HOUSE, 1 the HOUSE of a PERSON (NONE: off).");
        e.test("houses 0 and 7, PERSON 0 and 4", () -> {
            ThankedMoves x = Check.street("gifts 0;", 2, 0, 0, 0, 0, 0, 0, 1);
            for (int home : new int[] {0, 3, 3, 3, 7}) {
                x.person(home);
            }
            e.due("foretold(1, 0, 0)", x.foretold(1, 0, 0), 0);
            e.due("foretold(1, 0, 7)", x.foretold(1, 0, 7), 1);
            e.due("foretold(1, 1, 0)", x.foretold(1, 1, 0), 1);
            e.due("foretold(1, 1, 4)", x.foretold(1, 1, 4), 7);
        });
        e.test("off then", () -> {
            ThankedMoves x = Check.street(null, 0, 0, 0, 0, 0, 0, 0, 2);
            x.person(7);
            e.due("foretold(1, 1, 0)", x.foretold(1, 1, 0), NONE);
            x.thank(7);
            e.due("off already", x.foretold(1, 1, 0), NONE);
        });
        e.says("-2 for others.");
        e.test("0 and 61 NIGHTS", () -> {
            ThankedMoves x = oneOff();
            for (int n : new int[] {0, 61, -1, LOW, HIGH}) {
                e.due("foretold(" + n + ", 0, 0)", x.foretold(n, 0, 0), -2);
                e.due("foretold(" + n + ", 1, 0)", x.foretold(n, 1, 0), -2);
            }
        });
        e.test("what of -1 and 2", () -> {
            ThankedMoves x = oneOff();
            for (int what : new int[] {-1, 2, LOW, HIGH}) {
                e.due("foretold(1, " + what + ", 0)", x.foretold(1, what, 0), -2);
            }
        });
        e.test("a house too small or too large", () -> {
            for (int house : Edges.NO_HOUSES) {
                e.due("foretold(1, 0, " + house + ")", oneOff().foretold(1, 0, house), -2);
            }
        });
        e.test("a PERSON of -1, and 1 beyond the last", () -> {
            for (int person : new int[] {-1, 2, 5, LOW, HIGH}) {
                e.due("foretold(1, 1, " + person + ")", oneOff().foretold(1, 1, person), -2);
            }
            e.due("where there is nobody", new ThankedMoves().foretold(1, 1, 0), -2);
        });
    }

    private void rest() {
        e.at("Promise 21");
        e.says("AT REST: 0 KINDNESS of a HOUSE, 1 how often it is THANKED.");
        e.test("houses 0 and 7", () -> {
            ThankedMoves x = Check.street(null, 4, 0, 0, 0, 0, 0, 0, 3);
            // 4 in house 0: 0 twice and 1 once, then 10100000; 3 in house 7: once
            e.due("rest(7, 0)", x.rest(7, 0), 1);
            e.due("rest(7, 1)", x.rest(7, 1), 1);
            e.due("rest(0, 0)", x.rest(0, 0), 1);
            e.due("rest(0, 1)", x.rest(0, 1), 2);
            e.due("rest(1, 1)", x.rest(1, 1), 1);
        });
        e.test("not thanked", () -> e.due("rest(3, 1)", EdgesParts.ones().rest(3, 1), 0));
        e.test("thanked in this settling alone", () -> {
            ThankedMoves x = Check.street(null, 0, 0, 2);
            x.settle();
            e.due("rest(2, 1)", x.rest(2, 1), 0);
        });
        e.says("NONE for others.");
        e.test("a house too small or too large", () -> {
            for (int house : Edges.NO_HOUSES) {
                e.due("rest(" + house + ", 0)", new ThankedMoves().rest(house, 0), NONE);
                e.due("rest(" + house + ", 1)", new ThankedMoves().rest(house, 1), NONE);
            }
        });
        e.test("what of -1 and 2", () -> {
            for (int what : new int[] {-1, 2, LOW, HIGH}) {
                e.due("rest(0, " + what + ")", new ThankedMoves().rest(0, what), NONE);
            }
        });
    }

    private void wave() {
        e.at("Promise 22");
        e.says("A WAVE.");
        e.test("of houses 0 and 7, none and some", () -> {
            ThankedMoves x = Check.street(null, 1, 1);
            e.due("wave(0)", x.wave(0), 2);
            e.due("wave(7)", x.wave(7), 0);
            ThankedMoves y = Check.street(null, 0, 0, 0, 0, 0, 0, 1, 1);
            e.due("wave(0)", y.wave(0), 0);
            e.due("wave(7)", y.wave(7), 2);
        });
        e.says("NONE for others.");
        e.test("a house too small or too large", () -> {
            for (int house : Edges.NO_HOUSES) {
                e.due("wave(" + house + ")", EdgesParts.ones().wave(house), NONE);
            }
        });
    }

    private void greatest() {
        e.at("Promise 23");
        e.says("GREATEST: WAVE (house false), HOUSE (house true).");
        e.test("none", () -> {
            e.due("greatest(false)", new ThankedMoves().greatest(false), 0);
            e.due("greatest(true)", new ThankedMoves().greatest(true), 0);
        });
        e.test("house 0, and house 7", () -> {
            ThankedMoves x = Check.street(null, 1);
            e.due("greatest(false)", x.greatest(false), 1);
            e.due("greatest(true)", x.greatest(true), 0);
            ThankedMoves y = Check.street(null, 0, 0, 0, 0, 0, 0, 0, 1);
            e.due("greatest(false)", y.greatest(false), 1);
            e.due("greatest(true)", y.greatest(true), 7);
        });
        e.test("of like ones the lowest", () -> {
            ThankedMoves x = Check.street(null, 0, 0, 1, 0, 0, 1);
            e.due("greatest(false)", x.greatest(false), 1);
            e.due("greatest(true)", x.greatest(true), 2);
        });
    }

    private void reached() {
        e.at("Promise 24");
        e.says("REACHED (bits).");
        e.test("none, one end, all", () -> {
            e.due("reached(0)", new ThankedMoves().reached(0), 0);
            e.due("reached(7)", Check.street(null, 0, 0, 0, 0, 0, 0, 0, 1).reached(7), 128);
            e.due("reached(7)", EdgesParts.ones().reached(7), 255);
        });
        e.test("in the WAVE, not on the way to rest", () -> {
            e.due("reached(3)", Check.street(null, 0, 0, 0, 2).reached(3), 0);
        });
        e.says("NONE for others.");
        e.test("a house too small or too large", () -> {
            for (int house : Edges.NO_HOUSES) {
                e.due("reached(" + house + ")", EdgesParts.ones().reached(house), NONE);
            }
        });
    }

    private void waves() {
        e.at("Promise 25");
        e.says("WAVES.");
        e.test("0 and 7, neighbours", () -> {
            ThankedMoves x = EdgesParts.ones();
            e.due("waves(0, 7)", x.waves(0, 7), 8);
            e.due("waves(7, 0)", x.waves(7, 0), 8);
            ThankedMoves y = Check.street(null, 1, 1);
            e.due("waves(0, 1)", y.waves(0, 1), 2);
            e.due("none", new ThankedMoves().waves(0, 1), 0);
        });
        e.says("NONE for others.");
        e.test("like ones", () -> {
            e.due("waves(0, 0)", EdgesParts.ones().waves(0, 0), NONE);
            e.due("waves(7, 7)", EdgesParts.ones().waves(7, 7), NONE);
        });
        e.test("a house too small or too large, as first and as second", () -> {
            for (int house : Edges.NO_HOUSES) {
                e.due("waves(" + house + ", 3)", EdgesParts.ones().waves(house, 3), NONE);
                e.due("waves(3, " + house + ")", EdgesParts.ones().waves(3, house), NONE);
                e.due("waves(" + house + ", " + house + ")", EdgesParts.ones().waves(house, house), NONE);
            }
        });
    }

    private void until() {
        e.at("Promise 26");
        e.says("UNTIL.");
        e.test("houses 0 and 7, like ones and others", () -> {
            ThankedMoves x = new ThankedMoves();
            e.due("until(0, 0)", x.until(0, 0), 2);
            e.due("until(7, 7)", x.until(7, 7), 2);
            e.due("until(0, 7)", x.until(0, 7), 37);
            e.due("until(7, 0)", x.until(7, 0), 37);
        });
        e.says("NONE: not in 100, and for others.");
        e.test("100 and 101", () -> {
            ThankedMoves x = Check.street("holds if here=3 then 6 else 3 end;");
            e.due("until(7, 2)", x.until(7, 2), 100);
            ThankedMoves y = Check.street("holds if here<4 then 5 else 6 end;");
            e.due("until(7, 3)", y.until(7, 3), NONE);
        });
        e.test("a house too small or too large, as first and as second", () -> {
            for (int house : Edges.NO_HOUSES) {
                e.due("until(" + house + ", 3)", EdgesParts.ones().until(house, 3), NONE);
                e.due("until(3, " + house + ")", EdgesParts.ones().until(3, house), NONE);
            }
        });
    }

    private void mover() {
        e.at("Promise 27");
        e.says("MOVER: how often anybody moves (house false), the HOUSE (house true).");
        e.test("nobody", () -> {
            e.due("mover(false)", new ThankedMoves().mover(false), 0);
            e.due("mover(true)", new ThankedMoves().mover(true), 0);
        });
        e.test("all 5, from 7", () -> {
            ThankedMoves x = Check.street(null, 0, 0, 0, 0, 0, 0, 0, 1);
            for (int p = 0; p < 5; p++) {
                x.person(7);
            }
            e.due("mover(false)", x.mover(false), 5);
            e.due("mover(true)", x.mover(true), 7);
        });
        e.test("more moves by a higher house", () -> {
            ThankedMoves x = Check.street(null, 0, 1, 0, 0, 1);
            x.person(1);
            x.person(4);
            x.person(4);
            e.due("mover(false)", x.mover(false), 2);
            e.due("mover(true)", x.mover(true), 4);
        });
        e.test("as many by a higher house: the lowest", () -> {
            ThankedMoves x = Check.street(null, 0, 1, 0, 0, 1);
            x.person(1);
            x.person(4);
            e.due("mover(true)", x.mover(true), 1);
        });
    }

    private void again() {
        e.at("Promise 28");
        e.says("whether it is AGAIN.");
        e.test("it is", () -> e.due("again()", EdgesParts.ones().again(), true));
        e.test("it is not", () -> e.due("again()", new ThankedMoves().again(), false));
        e.test("one house alone is unlike", () -> {
            // with 9 held nothing is thanked: 0 and 7 have 1 more each
            e.due("again()", Check.street("holds 9;", 1, 1, 1, 1, 1, 1, 1, 1).again(), false);
            // house 7 is as it was, 0 is not
            e.due("again()", Check.street("holds if here=0 then 9 else 0 end;", 1).again(), false);
        });
    }

    private void period() {
        e.at("Promise 29");
        e.says("A PERIOD: behind how many (ahead true), how long (ahead false).");
        e.test("behind none, behind some", () -> {
            e.due("period(7, true)", EdgesParts.ones().period(7, true), 0);
            e.due("period(7, false)", EdgesParts.ones().period(7, false), 9);
            e.due("period(0, true)", new ThankedMoves().period(0, true), 28);
            e.due("period(0, false)", new ThankedMoves().period(0, false), 9);
        });
        e.says("NONE: not in 100, and for others.");
        e.test("100 and 101", () -> {
            ThankedMoves x = Check.street("holds if here<2 then 6 else 3 end;");
            e.due("period(6, true)", x.period(6, true), 91);
            e.due("period(6, false)", x.period(6, false), 9);
            ThankedMoves y = Check.street("holds over 9 of here;");
            e.due("period(1, true)", y.period(1, true), NONE);
            e.due("period(1, false)", y.period(1, false), NONE);
        });
        e.test("a house too small or too large", () -> {
            for (int house : Edges.NO_HOUSES) {
                e.due("period(" + house + ", true)", EdgesParts.ones().period(house, true), NONE);
                e.due("period(" + house + ", false)", EdgesParts.ones().period(house, false), NONE);
            }
        });
    }

    private void least() {
        e.at("Promise 30");
        e.says("LEAST to go off: how many (house false), the HOUSE (house true).");
        e.test("0, where it is off", () -> {
            e.due("least(0, false)", oneOff().least(0, false), 0);
            e.due("least(0, true)", oneOff().least(0, true), 0);
        });
        e.test("PERSON 4, in house 7", () -> {
            ThankedMoves x = Check.street("holds 9;");
            for (int p = 0; p < 4; p++) {
                x.person(0);
            }
            x.person(7);
            e.due("least(4, false)", x.least(4, false), 11);
            e.due("least(4, true)", x.least(4, true), 7);
        });
        e.test("20", () -> {
            ThankedMoves x = Check.street("holds 8;", 1, 0, 3, 2, 3, 3, 3, 2);
            x.person(6);
            e.due("least(0, false)", x.least(0, false), 20);
            e.due("least(0, true)", x.least(0, true), 6);
        });
        e.says("NONE: none by 20, and for others.");
        e.test("none by 20", () -> {
            ThankedMoves x = Check.street("holds 9;");
            x.person(0);
            e.due("least(0, false)", x.least(0, false), NONE);
            e.due("least(0, true)", x.least(0, true), NONE);
        });
        e.test("a PERSON of -1, and 1 beyond the last", () -> {
            for (int person : new int[] {-1, 2, 5, LOW, HIGH}) {
                e.due("least(" + person + ", false)", oneOff().least(person, false), NONE);
                e.due("least(" + person + ", true)", oneOff().least(person, true), NONE);
            }
            e.due("where there is nobody", new ThankedMoves().least(0, false), NONE);
        });
    }

    private void meet() {
        e.at("Promise 31");
        e.says("MEETING: how many HOUSES (i NONE), the i-th.");
        e.test("0, 1, 2 and 3", () -> {
            String law = "holds if here=3 then 2 else 9 end;";
            for (int n = 0; n <= 3; n++) {
                ThankedMoves x = Check.street(law, 0, 0, 0, 4 - n);
                x.person(3);
                x.person(n == 0 ? 3 : 4);
                e.due("meet(0, 1, NONE)", x.meet(0, 1, NONE), n);
                for (int i = 0; i < n; i++) {
                    e.due("meet(0, 1, " + i + ") of " + n, x.meet(0, 1, i), n == 0 ? NONE : 3);
                }
            }
        });
        e.test("either way round, the first and the last of 5", () -> {
            ThankedMoves x = Check.street(null, 0, 0, 2, 1);
            for (int home : new int[] {2, 7, 7, 7, 3}) {
                x.person(home);
            }
            e.due("meet(0, 4, NONE)", x.meet(0, 4, NONE), 1);
            e.due("meet(4, 0, NONE)", x.meet(4, 0, NONE), 1);
        });
        e.says("-2: none, there is none such, and for others.");
        e.test("none", () -> {
            ThankedMoves x = Check.street("holds 9;");
            x.person(0);
            x.person(4);
            e.due("meet(0, 1, NONE)", x.meet(0, 1, NONE), -2);
            e.due("meet(0, 1, 0)", x.meet(0, 1, 0), -2);
        });
        e.test("the first of 0, the second of 1, the fourth of 3", () -> {
            String law = "holds if here=3 then 2 else 9 end;";
            for (int n = 0; n <= 3; n++) {
                ThankedMoves x = Check.street(law, 0, 0, 0, 4 - n);
                x.person(3);
                x.person(n == 0 ? 3 : 4);
                for (int i : new int[] {n, -2, LOW, HIGH}) {
                    e.due("meet(0, 1, " + i + ") of " + n, x.meet(0, 1, i), -2);
                }
            }
        });
        e.test("like ones", () -> {
            ThankedMoves x = oneOff();
            e.due("meet(1, 1, NONE)", x.meet(1, 1, NONE), -2);
            e.due("meet(5, 5, NONE)", x.meet(5, 5, NONE), -2);
        });
        e.test("a PERSON of -1, and 1 beyond the last, as first and as second", () -> {
            for (int person : new int[] {-1, 2, 5, LOW, HIGH}) {
                e.due("meet(" + person + ", 1, NONE)", oneOff().meet(person, 1, NONE), -2);
                e.due("meet(1, " + person + ", NONE)", oneOff().meet(1, person, NONE), -2);
            }
        });
        e.test("one who is off", () -> e.due("meet(0, 1, NONE)", oneOff().meet(0, 1, NONE), -2));
    }

    private void doers() {
        e.at("Promise 32");
        e.says("WHO DID IT: in how many ways (first false), the lowest (first true; NONE: none).");
        e.test("none", () -> {
            e.due("doers(false)", new ThankedMoves().doers(false), 0);
            e.due("doers(true)", new ThankedMoves().doers(true), NONE);
        });
        e.test("house 0 is not none", () -> {
            ThankedMoves x = new ThankedMoves();
            x.good(0, 1);
            e.due("doers(true)", x.doers(true), 0);
            e.due("doers(false)", x.doers(false), 1);
        });
        e.test("of two alone", () -> {
            ThankedMoves x = new ThankedMoves();
            x.good(3, 1);
            x.good(5, 1);
            // 3 and 5, 5 and 3, 4 twice
            e.due("doers(false)", x.doers(false), 3);
            e.due("doers(true)", x.doers(true), 45);
        });
        e.test("from the latest image", () -> {
            ThankedMoves x = new ThankedMoves();
            x.good(0, 1);
            x.image();
            e.due("doers(true)", x.doers(true), NONE);
            x.good(7, 1);
            e.due("doers(true)", x.doers(true), 7);
        });
    }

    private void likely() {
        e.at("Promise 33");
        e.says("LIKELY: the upper (low false), the lower one (low true).");
        e.test("0 of 1, 1 of 1, 17 of 64", () -> {
            ThankedMoves x = Check.street(null, 0, 0, 0, 1);
            x.person(3);
            e.due("likely(0, 2, false)", x.likely(0, 2, false), 17);
            e.due("likely(0, 2, true)", x.likely(0, 2, true), 64);
            x.kind(3, 2);
            e.due("likely(0, 1, false)", x.likely(0, 1, false), 1);
            e.due("likely(0, 1, true)", x.likely(0, 1, true), 1);
            x.kind(3, 0);
            e.due("likely(0, 1, false)", x.likely(0, 1, false), 0);
            e.due("likely(0, 1, true)", x.likely(0, 1, true), 1);
        });
        e.test("n 1 and 3, PERSON 4", () -> {
            ThankedMoves x = Check.street("holds 9;", 0, 0, 0, 8, 0, 10);
            for (int home : new int[] {0, 0, 0, 5, 3}) {
                x.person(home);
            }
            e.due("likely(3, 1, false)", x.likely(3, 1, false), 1);
            e.due("likely(3, 1, true)", x.likely(3, 1, true), 8);
            e.due("likely(4, 3, false)", x.likely(4, 3, false), 1);
            e.due("likely(4, 3, true)", x.likely(4, 3, true), 512);
        });
        e.says("NONE for others (n 1 .. 3).");
        e.test("0 and 4 times", () -> {
            for (int n : new int[] {0, 4, -1, LOW, HIGH}) {
                e.due("likely(1, " + n + ", false)", oneOff().likely(1, n, false), NONE);
                e.due("likely(1, " + n + ", true)", oneOff().likely(1, n, true), NONE);
            }
        });
        e.test("a PERSON of -1, and 1 beyond the last", () -> {
            for (int person : new int[] {-1, 2, 5, LOW, HIGH}) {
                e.due("likely(" + person + ", 1, false)", oneOff().likely(person, 1, false), NONE);
                e.due("likely(" + person + ", 1, true)", oneOff().likely(person, 1, true), NONE);
            }
        });
    }

    private void off() {
        e.at("Promise 34");
        e.says("ALL OFF: the upper (low false), the lower one (low true).");
        e.test("0 of 1, 1 of 1, 1 of 8", () -> {
            ThankedMoves x = new ThankedMoves();
            e.due("off(1, false)", x.off(1, false), 1);
            e.due("off(1, true)", x.off(1, true), 1);
            x.person(7);
            e.due("off(1, false)", x.off(1, false), 0);
            e.due("off(1, true)", x.off(1, true), 1);
            x.kind(7, 1);
            e.due("off(1, false)", x.off(1, false), 1);
            e.due("off(1, true)", x.off(1, true), 8);
        });
        e.test("n 3: 1 of 512", () -> {
            ThankedMoves x = Check.street("holds 9;", 0, 0, 0, 0, 0, 0, 0, 8);
            x.person(7);
            e.due("off(3, false)", x.off(3, false), 1);
            e.due("off(3, true)", x.off(3, true), 512);
        });
        e.says("NONE for others (n 1 .. 3).");
        e.test("0 and 4 times", () -> {
            for (int n : new int[] {0, 4, -1, LOW, HIGH}) {
                e.due("off(" + n + ", false)", oneOff().off(n, false), NONE);
                e.due("off(" + n + ", true)", oneOff().off(n, true), NONE);
            }
        });
    }
}
