/** Boundary cases of the promises 1 to 8: what is told, and texts. */
final class EdgesTold {
    private static final int NONE = ThankedMoves.NONE;
    private static final int LOW = Edges.LOW;
    private static final int HIGH = Edges.HIGH;
    private final Edges e;

    EdgesTold(Edges edges) {
        e = edges;
    }

    void run() {
        newObject();
        person();
        kind();
        feed();
        end();
        text();
        fault();
        by();
    }

    private void newObject() {
        e.at("Promise 1");
        e.says("Nobody; THE IMAGE is this.");
        e.test("nobody", () -> {
            ThankedMoves x = new ThankedMoves();
            e.due("about(0)", x.about(0), 0);
            e.due("ofPerson(0)", x.ofPerson(0), -2);
            e.due("the first to be told", x.person(0), 0);
        });
        e.test("nothing else either", () -> {
            ThankedMoves x = new ThankedMoves();
            int[] about = {0, 0, NONE, 0, 0, 0, 0};
            for (int what = 0; what < about.length; what++) {
                e.due("about(" + what + ")", x.about(what), about[what]);
            }
            e.due("book(NONE, 0)", x.book(NONE, 0), 0);
        });
        e.test("THE IMAGE is this", () -> {
            ThankedMoves x = new ThankedMoves();
            String before = Edges.state(x);
            x.person(3);
            x.kind(2, 7);
            x.night(3);
            x.need(1, 4);
            x.said(1, 4);
            e.due("back()", x.back(), 0);
            e.same("all", Edges.state(x), before);
        });
        e.test("back() as the first call", () -> {
            ThankedMoves x = new ThankedMoves();
            e.due("back()", x.back(), 0);
            e.due("about(0)", x.about(0), 0);
        });
        e.test("one object is not another", () -> {
            ThankedMoves x = new ThankedMoves();
            x.kind(3, 7);
            x.image();
            ThankedMoves y = new ThankedMoves();
            e.due("of(3, 0)", y.of(3, 0), 0);
            y.back();
            e.due("of(3, 0)", y.of(3, 0), 0);
        });
    }

    private void person() {
        e.at("Promise 2");
        e.says("A PERSON: its number.");
        e.test("0 is the first and 4 the last; houses 0 and 7", () -> {
            ThankedMoves x = new ThankedMoves();
            int[] homes = {7, 0, 3, 3, 5};
            for (int p = 0; p < 5; p++) {
                e.due("person(" + homes[p] + ")", x.person(homes[p]), p);
                e.due("ofPerson(" + p + ")", x.ofPerson(p), homes[p]);
            }
        });
        e.says("NONE for others, or if there are 5.");
        e.test("a house too small or too large", () -> {
            ThankedMoves x = new ThankedMoves();
            for (int house : Edges.NO_HOUSES) {
                e.refused(x, "person(" + house + ")", () -> x.person(house), NONE);
            }
            e.due("no number is used up", x.person(0), 0);
        });
        e.test("a sixth", () -> {
            ThankedMoves x = new ThankedMoves();
            for (int p = 0; p < 5; p++) {
                x.person(p);
            }
            e.refused(x, "person(1)", () -> x.person(1), NONE);
        });
        e.test("a sixth, though one is off the street", () -> {
            ThankedMoves x = Check.street(null, 0, 0, 0, 0, 0, 0, 0, 2);
            for (int p = 0; p < 5; p++) {
                x.person(7);
            }
            x.thank(7);
            e.refused(x, "person(1)", () -> x.person(1), NONE);
        });
    }

    private void kind() {
        e.at("Promise 3");
        e.says("KINDNESS told: true.");
        e.test("0 and 40, houses 0 and 7", () -> {
            ThankedMoves x = new ThankedMoves();
            e.due("kind(0, 40)", x.kind(0, 40), true);
            e.due("kind(7, 40)", x.kind(7, 40), true);
            e.same("kindness", Check.kinds(x), "[40]000000[40]");
            e.due("kind(0, 0)", x.kind(0, 0), true);
            e.same("kindness", Check.kinds(x), "0000000[40]");
        });
        e.test("instead of 99", () -> {
            ThankedMoves x = new ThankedMoves();
            Check.enrich(x, 3, 99);
            e.due("kind(3, 40)", x.kind(3, 40), true);
            e.due("of(3, 0)", x.of(3, 0), 40);
        });
        e.says("False for others (0 .. 40).");
        e.test("-1 and 41", () -> {
            ThankedMoves x = new ThankedMoves();
            for (int kind : new int[] {-1, 41, LOW, HIGH}) {
                e.refused(x, "kind(3, " + kind + ")", () -> x.kind(3, kind));
            }
        });
        e.test("a house too small or too large", () -> {
            ThankedMoves x = new ThankedMoves();
            for (int house : Edges.NO_HOUSES) {
                e.refused(x, "kind(" + house + ", 1)", () -> x.kind(house, 1));
            }
        });
    }

    private void feed() {
        e.at("Promise 4");
        e.says("Twenty bytes come behind the tape, the highest of a first: how many it has.");
        e.test("behind an empty tape", () -> e.due("feed", new ThankedMoves().feed(1, 2, 3, 4, 5), 20));
        e.test("to 300", () -> {
            ThankedMoves x = new ThankedMoves();
            for (int n = 20; n <= 300; n += 20) {
                e.due("feed", x.feed(n, 2, 3, 4, 5), n);
            }
        });
        e.test("the highest of a first, the lowest of e last", () -> {
            // "holds 7;" and blanks, then "x"
            ThankedMoves x = new ThankedMoves();
            x.feed(0x686f6c64, 0x7320373b, 0x20202020, 0x20202020, 0x20202078);
            e.due("text()", x.text(), NONE);
            e.due("fault(1)", x.fault(1), 19);
            x.feed(0x686f6c64, 0x7320373b, 0x20202020, 0x20202020, 0x2020200a);
            e.due("text()", x.text(), 0);
            x.by(0);
            e.due("of(0, 2)", x.of(0, 2), 7);
        });
        e.test("behind a tape that was cut", () -> {
            // "holds 7" of the first, ";" of the second
            ThankedMoves x = new ThankedMoves();
            x.feed(0x686f6c64, 0x73203778, 0x78787878, 0x78787878, 0x78787878);
            x.end(7);
            e.due("feed", x.feed(0x3b202020, 0x20202020, 0x20202020, 0x20202020, 0x20202020), 27);
            e.due("text()", x.text(), 0);
        });
        e.test("a byte of 255 is 255, of 128 is 128", () -> {
            ThankedMoves x = new ThankedMoves();
            for (int four : new int[] {0xff202020, 0x80202020}) {
                x.feed(four, 0x20202020, 0x20202020, 0x20202020, 0x20202020);
                e.due("text()", x.text(), NONE);
                e.due("fault(0)", x.fault(0), 1);
                e.due("fault(1)", x.fault(1), 0);
            }
        });
        e.says("NONE, and none come, if there would be more than 300.");
        e.test("behind 300", () -> {
            ThankedMoves x = new ThankedMoves();
            for (int n = 20; n <= 300; n += 20) {
                x.feed(0x20202020, 0x20202020, 0x20202020, 0x20202020, 0x20202020);
            }
            e.refused(x, "feed", () -> x.feed(1, 1, 1, 1, 1), NONE);
            e.due("blanks alone are there", x.text(), 0);
        });
        e.test("behind 281: not even some", () -> {
            ThankedMoves x = new ThankedMoves();
            for (int n = 20; n <= 300; n += 20) {
                x.feed(0x20202020, 0x20202020, 0x20202020, 0x20202020, 0x20202020);
            }
            x.end(281);
            e.refused(x, "feed", () -> x.feed(0x78787878, 0, 0, 0, 0), NONE);
            e.due("blanks alone are there", x.text(), 0);
        });
        e.test("behind 280", () -> {
            ThankedMoves x = new ThankedMoves();
            for (int n = 20; n <= 300; n += 20) {
                x.feed(0x20202020, 0x20202020, 0x20202020, 0x20202020, 0x20202020);
            }
            x.end(280);
            e.due("feed", x.feed(1, 1, 1, 1, 1), 300);
        });
    }

    private void end() {
        e.at("Promise 5");
        e.says("The tape has its first n bytes alone: n.");
        e.test("0 of none, 0 of some, all", () -> {
            ThankedMoves x = new ThankedMoves();
            e.due("end(0)", x.end(0), 0);
            x.feed(1, 2, 3, 4, 5);
            e.due("end(20)", x.end(20), 20);
            e.due("about(6)", x.about(6), 20);
            e.due("end(19)", x.end(19), 19);
            e.due("about(6)", x.about(6), 19);
            e.due("end(0)", x.end(0), 0);
            e.due("about(6)", x.about(6), 0);
        });
        e.test("its first, not its last", () -> {
            // "settle;" and what can't stand there
            ThankedMoves x = new ThankedMoves();
            x.feed(0x73657474, 0x6c653b78, 0x78787878, 0x78787878, 0x78787878);
            x.end(7);
            e.due("text()", x.text(), 0);
        });
        e.test("300", () -> {
            ThankedMoves x = new ThankedMoves();
            for (int n = 20; n <= 300; n += 20) {
                x.feed(1, 2, 3, 4, 5);
            }
            e.due("end(300)", x.end(300), 300);
        });
        e.says("NONE, and nothing is done, if it has not so many, or n is below 0.");
        e.test("1 more than it has", () -> {
            ThankedMoves x = new ThankedMoves();
            e.refused(x, "end(1)", () -> x.end(1), NONE);
            x.feed(1, 2, 3, 4, 5);
            e.refused(x, "end(21)", () -> x.end(21), NONE);
            e.refused(x, "end(HIGH)", () -> x.end(HIGH), NONE);
        });
        e.test("as many as it had ahead of being cut", () -> {
            ThankedMoves x = new ThankedMoves();
            x.feed(1, 2, 3, 4, 5);
            x.end(7);
            e.refused(x, "end(8)", () -> x.end(8), NONE);
        });
        e.test("below 0", () -> {
            ThankedMoves x = new ThankedMoves();
            x.feed(1, 2, 3, 4, 5);
            e.refused(x, "end(-1)", () -> x.end(-1), NONE);
            e.refused(x, "end(LOW)", () -> x.end(LOW), NONE);
        });
    }

    private void text() {
        e.at("Promise 6");
        e.says("The tape (empty then) is a TEXT: its number.");
        e.test("an empty tape", () -> e.due("text()", new ThankedMoves().text(), 0));
        e.test("0 is the first, 3 the last, and the tape is empty then", () -> {
            ThankedMoves x = new ThankedMoves();
            for (int i = 0; i < 4; i++) {
                e.due("text()", Check.text(x, "holds " + i + ";"), i);
                e.due("about(6)", x.about(6), 0);
                e.due("about(1)", x.about(1), i + 1);
            }
        });
        e.test("of 300 bytes", () -> {
            ThankedMoves x = new ThankedMoves();
            e.due("text()", Check.text(x, "settle" + " ".repeat(293) + ";"), 0);
        });
        e.says("NONE: it has a FAULT; or (the tape stays) there are 4.");
        e.test("a FAULT: the tape is empty, and no number is used up", () -> {
            ThankedMoves x = new ThankedMoves();
            e.due("text()", Check.text(x, "holds;"), NONE);
            e.due("about(6)", x.about(6), 0);
            e.due("about(1)", x.about(1), 0);
            e.due("the next", Check.text(x, "holds 1;"), 0);
        });
        e.test("a FAULT leaves the texts ahead of it as they are", () -> {
            ThankedMoves x = Check.street("holds 4;");
            Check.text(x, "holds 5;x");
            e.due("of(0, 2)", x.of(0, 2), 4);
            e.due("about(2)", x.about(2), 0);
        });
        e.test("nothing of a text with a FAULT is in the next", () -> {
            ThankedMoves x = new ThankedMoves();
            Check.text(x, "kind 5 at 5;gifts house 7+5;holds house 7+4;x");
            x.by(Check.text(x, "person 1;"));
            e.due("holds", x.of(0, 2), 0);
            e.due("gifts", x.of(0, 3), 1);
            e.due("played(0)", x.played(0), NONE);
            e.due("of(5, 0)", x.of(5, 0), 0);
        });
        e.test("many long texts with a FAULT take no room from the next", () -> {
            ThankedMoves x = new ThankedMoves();
            String sum = "9" + "-0".repeat(140);
            for (int i = 0; i < 9; i++) {
                e.due("text()", Check.text(x, "holds " + sum), NONE);
            }
            x.by(Check.text(x, "holds " + sum + ";"));
            e.due("of(0, 2)", x.of(0, 2), 9);
        });
        e.test("there are 4: the tape stays, and is not read", () -> {
            ThankedMoves x = new ThankedMoves();
            for (int i = 0; i < 4; i++) {
                Check.text(x, "holds " + i + ";");
            }
            Check.tape(x, Check.bytes("settle"));
            e.refused(x, "text()", x::text, NONE);
            e.due("about(6)", x.about(6), 6);
            e.due("fault(0)", x.fault(0), 0);
        });
        e.test("there are 4: the tape is read when there are fewer again", () -> {
            ThankedMoves x = new ThankedMoves();
            for (int i = 0; i < 4; i++) {
                Check.text(x, "holds " + i + ";");
            }
            Check.tape(x, Check.bytes("holds 7;"));
            x.text();
            x.back();
            e.due("text()", x.text(), 0);
            x.by(0);
            e.due("of(0, 2)", x.of(0, 2), 7);
        });
    }

    private void fault() {
        e.at("Promise 7");
        e.says("Of the latest text that was read: 0 its FAULT (0 without), 1 its place (NONE without).");
        e.test("the latest", () -> {
            ThankedMoves x = new ThankedMoves();
            Check.text(x, "settle");
            e.due("fault(0)", x.fault(0), 1);
            e.due("fault(1)", x.fault(1), 6);
            Check.text(x, "  night 61;");
            e.due("fault(0)", x.fault(0), 2);
            e.due("fault(1)", x.fault(1), 8);
        });
        e.test("without", () -> {
            ThankedMoves x = new ThankedMoves();
            Check.text(x, "settle");
            Check.text(x, "settle;");
            e.due("fault(0)", x.fault(0), 0);
            e.due("fault(1)", x.fault(1), NONE);
        });
        e.test("places 0 and 300", () -> {
            ThankedMoves x = new ThankedMoves();
            Check.text(x, "x");
            e.due("fault(1)", x.fault(1), 0);
            Check.text(x, "settle" + " ".repeat(294));
            e.due("fault(1)", x.fault(1), 300);
        });
        e.test("each of 1 to 6", () -> {
            String[] texts = {"x", "night 0;", "holds ---------1;", "gifts 1;gifts 1;", "holds last;", "settle;".repeat(25)};
            ThankedMoves x = new ThankedMoves();
            for (int i = 0; i < texts.length; i++) {
                Check.text(x, texts[i]);
                e.due("fault(0) of " + texts[i], x.fault(0), i + 1);
            }
        });
        e.says("NONE for others, and ahead of any.");
        e.test("ahead of any", () -> {
            ThankedMoves x = new ThankedMoves();
            x.feed(1, 2, 3, 4, 5);
            e.due("fault(0)", x.fault(0), NONE);
            e.due("fault(1)", x.fault(1), NONE);
        });
        e.test("-1 and 2", () -> {
            ThankedMoves x = new ThankedMoves();
            Check.text(x, "settle");
            for (int what : new int[] {-1, 2, LOW, HIGH}) {
                e.due("fault(" + what + ")", x.fault(what), NONE);
            }
        });
    }

    private void by() {
        e.at("Promise 8");
        e.says("THE TEXT (NONE: none): true.");
        e.test("the first and the last of 4", () -> {
            ThankedMoves x = new ThankedMoves();
            for (int i = 0; i < 4; i++) {
                Check.text(x, "holds " + (i + 1) + ";");
            }
            e.due("by(0)", x.by(0), true);
            e.due("of(0, 2)", x.of(0, 2), 1);
            e.due("by(3)", x.by(3), true);
            e.due("of(0, 2)", x.of(0, 2), 4);
            e.due("about(2)", x.about(2), 3);
        });
        e.test("NONE, with and without a text", () -> {
            ThankedMoves x = new ThankedMoves();
            e.due("by(NONE)", x.by(NONE), true);
            x.by(Check.text(x, "holds 5;"));
            e.due("by(NONE)", x.by(NONE), true);
            e.due("about(2)", x.about(2), NONE);
            e.due("of(0, 2)", x.of(0, 2), 0);
        });
        e.says("False for others.");
        e.test("where there are none", () -> {
            ThankedMoves x = new ThankedMoves();
            e.refused(x, "by(0)", () -> x.by(0));
        });
        e.test("1 beyond the last, and -2", () -> {
            ThankedMoves x = Check.street("holds 5;");
            for (int text : new int[] {1, -2, LOW, HIGH}) {
                e.refused(x, "by(" + text + ")", () -> x.by(text));
            }
        });
        e.test("4, where there are 4", () -> {
            ThankedMoves x = new ThankedMoves();
            for (int i = 0; i < 4; i++) {
                Check.text(x, "");
            }
            e.refused(x, "by(4)", () -> x.by(4));
        });
        e.test("one that had a FAULT, and one that is gone by back()", () -> {
            ThankedMoves x = new ThankedMoves();
            Check.text(x, "holds");
            e.refused(x, "by(0)", () -> x.by(0));
            Check.text(x, "holds 5;");
            x.back();
            e.refused(x, "by(0)", () -> x.by(0));
        });
    }
}
