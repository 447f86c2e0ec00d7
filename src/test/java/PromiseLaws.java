/** The language: its faults, and what its laws say (promises 6, 7 and 16 with part II of the document). */
final class PromiseLaws {
    private static Check check;

    static void run(Check with) {
        check = with;
        standing();
        faults();
        leastFault();
        nesting();
        values();
        names();
    }

    private static void fault(String text, int fault, int place) {
        ThankedMoves x = new ThankedMoves();
        check.due(6, "text() of " + text, Check.text(x, text), fault == 0 ? 0 : -1);
        check.due(7, "fault(0) of " + text, x.fault(0), fault);
        check.due(7, "fault(1) of " + text, x.fault(1), place);
    }

    private static void standing() {
        String[] texts = {"", " ", "\n", "holds 1;", "gifts 1;", "holds 1;gifts 1;", "gifts last;holds left+right;",
            "person 0;", "person 7;", "kind 0 at 0;", "kind 40 at 7;", "good 1 at 0;", "good 20 at 7;", "thank 0;",
            "thank 7;", "settle;", "night 1;", "night 60;", "night 060 ;", "holds 9999;", "holds 000000000000009999;",
            "holds\n1\n;\n", "holds(1);", "holds-1;", "holds - - 1;", "holds over 1 of 2;", "holds over(1)of(2);",
            "holds house 1;", "holds house-1;", "holds if 1<2 then 3 else 4 end;", "holds if not 1=1 then 3 else 4 end;",
            "holds if not not 1#1 then 3 else 4 end;", "holds if 1<2 and 3>=4 or 5<=6 then 7 else 8 end;",
            "holds if(1)<(2)then(3)else(4)end;", "holds kind+night+snow+here+people;gifts kind+night+snow+here+people;",
            "holds if if 1=1 then 1 else 2 end=1 then 1 else 2 end;", "holds 1+2-3*4/5;", "settle;settle;",
            "holds 1--1;", "holds over house 1 of-1;", "gifts 1;settle;holds 2;"};
        for (String text : texts) {
            fault(text, 0, -1);
        }
    }

    private static void faults() {
        fault("x", 1, 0);
        fault("  x", 1, 2);
        fault("Holds 1;", 1, 0);
        fault("settleall;", 1, 0);
        for (String letter : new String[] {"a", "z", "A", "Z"}) {
            fault("settle" + letter + ";", 1, 0);
            fault(letter + "settle;", 1, 0);
        }
        for (String none : new String[] {"@", "[", "`", "{", "_", ".", ":", "&", "|", "~", "\u007f", "\u0080", "\u0000"}) {
            fault("settle" + none + ";", 1, 6);
        }
        fault("settle0;", 1, 6);
        fault("settle;9", 1, 7);
        fault("settle ;;", 1, 8);
        fault("settle  ", 1, 8);
        fault("holds", 1, 5);
        fault("holds;", 1, 5);
        fault("holds 1", 1, 7);
        fault("holds 1 2;", 1, 8);
        fault("holds );", 1, 6);
        fault("holds (1;", 1, 8);
        fault("holds 1);", 1, 7);
        fault("holds x;", 1, 6);
        fault("holds then;", 1, 6);
        fault("holds person;", 1, 6);
        fault("holds not 1=1;", 1, 6);
        fault("holds 1=1;", 1, 7);
        fault("holds 1+;", 1, 8);
        fault("holds 1*/2;", 1, 8);
        fault("holds +1;", 1, 6);
        fault("holds over 1 2;", 1, 13);
        fault("holds over 1 of;", 1, 15);
        fault("holds over 1+1 of 2;", 1, 12);
        fault("holds house;", 1, 11);
        fault("holds if 1 then 2 else 3 end;", 1, 11);
        fault("holds if (1=1) then 2 else 3 end;", 1, 11);
        fault("holds if 1=1=1 then 2 else 3 end;", 1, 12);
        fault("holds if 1=1 2 else 3 end;", 1, 13);
        fault("holds if 1=1 then 2 end;", 1, 20);
        fault("holds if 1=1 then 2 else 3;", 1, 26);
        fault("holds if 1=1 or then 2 else 3 end;", 1, 16);
        fault("holds if 1< =1 then 2 else 3 end;", 1, 12);
        fault("holds if 1=<1 then 2 else 3 end;", 1, 11);
        fault("holds if not 1 then 2 else 3 end;", 1, 15);
        fault("holds 1.5;", 1, 7);
        fault("holds 1\t;", 1, 7);
        fault("holds 1\r;", 1, 7);
        fault("holds \u00e9;", 1, 6);
        fault("person;", 1, 6);
        fault("person x;", 1, 7);
        fault("person -1;", 1, 7);
        fault("person (1);", 1, 7);
        fault("kind 1;", 1, 6);
        fault("kind 1 at;", 1, 9);
        fault("good 1 of 2;", 1, 7);
        fault("thank 0 1;", 1, 8);
        fault("night;", 1, 5);
        fault("settle 1;", 1, 7);
        fault("settle 99999;", 1, 7);
        fault("1;", 1, 0);
        fault("kind 1 at 2 settle;", 1, 12);

        fault("person 8;", 2, 7);
        fault("person 10000;", 2, 7);
        fault("kind 41 at 0;", 2, 5);
        fault("kind 40 at 8;", 2, 11);
        fault("good 0 at 0;", 2, 5);
        fault("good 21 at 0;", 2, 5);
        fault("good 20 at 8;", 2, 11);
        fault("thank 8;", 2, 6);
        fault("night 0;", 2, 6);
        fault("night 61;", 2, 6);
        fault("holds 10000;", 2, 6);
        fault("holds 1+99999999999999999999;", 2, 8);
        fault("holds 4294967297;", 2, 6);
        fault("holds 10000 1;", 2, 6);

        fault("holds 1;holds 1;", 4, 8);
        fault("gifts 1;settle;gifts 1;", 4, 15);
        fault("gifts left;", 5, 6);
        fault("gifts 1+right;", 5, 8);
        fault("holds last;", 5, 6);
        fault("holds if last=1 then 1 else 2 end;", 5, 9);
        fault("holds 1;gifts left;", 5, 14);
        fault("gifts 1;holds last;", 5, 14);
    }

    private static String times(String part, int n) {
        return part.repeat(n);
    }

    private static void leastFault() {
        fault(times("settle;", 24), 0, -1);
        fault(times("settle;", 25), 6, 168);
        fault(times("settle;", 24) + "holds 1;", 6, 168);
        fault("holds 1;" + times("settle;", 23) + "holds 1;", 4, 169);
        fault(times("settle;", 24) + "x", 1, 168);
        fault(times("settle;", 24) + "snow", 1, 168);
        fault(times("settle;", 24) + " \n", 0, -1);
        fault(times("settle;", 24) + "person 9;", 6, 168);
        // The first fault counts, not the least of all.
        fault("holds last;x", 5, 6);
        fault("person 8 9;", 2, 7);
    }

    private static void nesting() {
        fault("holds " + times("(", 8) + "1" + times(")", 8) + ";", 0, -1);
        fault("holds " + times("(", 9) + "1" + times(")", 9) + ";", 3, 14);
        fault("holds " + times("-", 8) + "1;", 0, -1);
        fault("holds " + times("-", 9) + "1;", 3, 14);
        fault("holds " + times("house ", 8) + "1;", 0, -1);
        fault("holds " + times("house ", 9) + "1;", 3, 54);
        fault("holds " + times("over ", 8) + "1" + times(" of 1", 8) + ";", 0, -1);
        fault("holds " + times("over ", 9) + "1" + times(" of 1", 9) + ";", 3, 46);
        fault("holds " + times("over 1 of ", 8) + "1;", 0, -1);
        fault("holds " + times("over 1 of ", 9) + "1;", 3, 86);
        fault("holds if " + times("not ", 7) + "1=1 then 1 else 2 end;", 0, -1);
        fault("holds if " + times("not ", 8) + "1=1 then 1 else 2 end;", 3, 37);
        String ifs = "if 1=1 then ";
        fault("holds " + times(ifs, 8) + "1" + times(" else 2 end", 8) + ";", 0, -1);
        fault("holds " + times(ifs, 9) + "1", 3, 102);
        String elses = "if 1=1 then 1 else ";
        fault("holds " + times(elses, 8) + "1" + times(" end", 8) + ";", 0, -1);
        fault("holds " + times(elses, 9) + "1", 3, 158);
        String asks = "if 1=";
        fault("holds " + times(asks, 8) + "1" + times(" then 1 else 1 end", 8) + ";", 0, -1);
        fault("holds " + times(asks, 9) + "1", 3, 46);
        fault("holds " + times("(", 7) + "-1+-1" + times(")", 7) + ";", 0, -1);
        fault("holds " + times("(", 8) + "-1" + times(")", 8) + ";", 3, 14);
        fault("holds " + times("(", 8) + "1-1" + times(")", 8) + ";", 0, -1);
        // What was closed does not count any more; what is closed with it neither.
        fault("holds " + times("(", 7) + "over 1 of 2+over(1)of 2", 3, 29);
        fault("holds " + times("(", 6) + "over 1 of 2+over(1)of(2)" + times(")", 6) + ";", 0, -1);
        fault("holds " + times("(", 7) + "house 1+house 2" + times(")", 7) + ";", 0, -1);
        fault("holds " + times("(", 6) + "if not 1=1 and not 1=1 then 1 else 2 end" + times(")", 6) + ";", 0, -1);
        fault("holds " + times("(", 7) + "if not 1=1", 3, 16);
        // A 9th that can't stand there is a fault 1.
        fault("holds " + times("(", 8) + "1(", 1, 15);
        fault("holds " + times("(", 8) + "not", 1, 14);
        fault("holds " + times("(", 8) + "+1", 1, 14);
    }

    private static void worth(String sum, int due, int... kinds) {
        ThankedMoves x = Check.street("holds " + sum + ";", kinds);
        check.due(6, "text() of " + sum, x.about(1), 1);
        check.due(16, "of(2, 2) under holds " + sum, x.of(2, 2), due);
    }

    private static void values() {
        worth("7", 7);
        worth("10", 9);
        worth("-1", 0);
        worth("2+3*2", 8);
        worth("9-3-2", 4);
        worth("9-(3-2)", 8);
        worth("8/2/2", 2);
        worth("8/(2/2)", 8);
        worth("7/2*2", 6);
        worth("5+-7/2", 2);
        worth("5-7/-2", 8);
        worth("3+5/0", 3);
        worth("-2*-3", 6);
        worth("--4", 4);
        worth("over 5 of 3", 2);
        worth("over 3 of 5", 0);
        worth("over 3 of 3", 0);
        worth("over-3 of-5", 2);
        worth("over 9 of 2+1", 8);
        worth("over 1 of over 9 of 2", 0);
        worth("over over 9 of 2 of 3", 4);
        worth("9999*9999/(1000*1000)+2", 3);
        worth("9999*9999-9999*100-9", 9);
        worth("9999*9999-9999*100-95", 5);
        worth("-9999*9999+9999*100+105", 5);
        worth("9999*9999+9999*9999-9999*100-99", 1);
        worth("over(9999*9999)of(-9999*9999)-9999*100-98", 2);
        worth("house 1", 6, 5, 6, 7, 8);
        worth("house 1+1", 7, 5, 6, 7, 8);
        worth("house(1+1)", 7, 5, 6, 7, 8);
        worth("house-1+4", 4, 5, 6, 7, 8);
        worth("house 8+4", 4, 5, 6, 7, 8);
        worth("house house 0", 3, 3, 0, 0, 3);
        worth("house 7", 4, 0, 0, 0, 0, 0, 0, 0, 4);
        worth("if 1<2 then 3 else 4 end", 3);
        worth("if 2<2 then 3 else 4 end", 4);
        worth("if 2<=2 then 3 else 4 end", 3);
        worth("if 3<=2 then 3 else 4 end", 4);
        worth("if 2>2 then 3 else 4 end", 4);
        worth("if 3>2 then 3 else 4 end", 3);
        worth("if 2>=2 then 3 else 4 end", 3);
        worth("if 1>=2 then 3 else 4 end", 4);
        worth("if 2=2 then 3 else 4 end", 3);
        worth("if 2=1 then 3 else 4 end", 4);
        worth("if 2#1 then 3 else 4 end", 3);
        worth("if 2#2 then 3 else 4 end", 4);
        worth("if not 2#2 then 3 else 4 end", 3);
        worth("if not not 2#2 then 3 else 4 end", 4);
        worth("if 1=2 and 1=1 or 1=1 then 3 else 4 end", 3);
        worth("if 1=1 or 1=1 and 1=2 then 3 else 4 end", 3);
        worth("if 1=1 and 1=2 then 3 else 4 end", 4);
        worth("if 1=2 or 1=2 then 3 else 4 end", 4);
        worth("if not 1=2 and 1=2 then 3 else 4 end", 4);
        worth("if not 1=1 or 1=1 then 3 else 4 end", 3);
        worth("if 1+1=2*1 then 3 else 4 end+1", 4);
        worth("2*if 1=2 then 3 else if 1=1 then 2 else 1 end end", 4);
        worth("if 1=1 then if 1=2 then 1 else 5 end else 7 end", 5);
    }

    private static void names() {
        ThankedMoves x = new ThankedMoves();
        Check.text(x, "holds left;gifts last;");
        Check.text(x, "holds right;gifts kind;");
        Check.text(x, "holds night;gifts snow+here;");
        Check.text(x, "holds kind+here;gifts people;");
        for (int h = 0; h < 8; h++) {
            x.kind(h, h + 1);
        }
        x.person(4);
        x.person(4);
        for (int h = 0; h < 8; h++) {
            x.by(0);
            check.due(16, "left of " + h, x.of(h, 2), h);
            x.by(1);
            check.due(16, "right of " + h, x.of(h, 2), h == 7 ? 0 : h + 2);
            check.due(16, "kind of " + h, x.of(h, 3), h + 1);
            x.by(2);
            check.due(16, "snow and here of " + h, x.of(h, 3), h);
            x.by(3);
            check.due(16, "kind and here of " + h, x.of(h, 2), Math.min(9, 2 * h + 1));
            check.due(16, "people of " + h, x.of(h, 3), h == 4 ? 2 : 0);
        }
        x.back();
        lastAndNight();
    }

    private static void lastAndNight() {
        // Nothing of a text with a fault is in the next one.
        ThankedMoves anew = new ThankedMoves();
        Check.text(anew, "settle;gifts house 7+5;holds house 7+4;x");
        anew.by(Check.text(anew, "person 1;"));
        check.due(16, "no gifts", anew.of(0, 3), 1);
        check.due(16, "no holds", anew.of(0, 2), 0);
        check.due(13, "one clause", anew.played(0), -1);
        check.due(13, "one clause", anew.about(0), 1);
        ThankedMoves x = new ThankedMoves();
        Check.text(x, "gifts last;");
        Check.text(x, "holds night;gifts snow;");
        x.kind(2, 1);
        x.night(1);
        check.due(18, "house 2 was thanked", x.is(4), 1);
        x.by(0);
        // how many times it was thanked in all, whichever house is asked
        check.due(16, "last of 2", x.of(2, 3), 1);
        check.due(16, "last of 6", x.of(6, 3), 1);
        x.by(1);
        check.due(16, "night", x.of(6, 2), 1);
        check.due(16, "no snow", x.of(6, 3), 0);
        // In a night gifts are asked with its snow, with NIGHT as it was, and last of the night ahead.
        ThankedMoves y = Check.street("gifts snow*7+night;");
        y.years(0, 1);
        check.due(12, "gifts in snow", y.is(3) + y.is(5), 7);
        ThankedMoves z = Check.street("gifts night*5;");
        z.night(1);
        check.due(12, "gifts in night 0", z.is(5), 0);
        z.night(1);
        check.due(12, "gifts in night 1", z.is(3) + z.is(5), 5);
        ThankedMoves w = Check.street("gifts last;", 2);
        w.night(1);
        check.due(12, "last ahead of any night is 0", w.is(3) + w.is(5), 2);
        check.due(12, "thanked once", w.is(4), 1);
        w.night(1);
        check.due(12, "last in the second night is 1", w.is(3) + w.is(5), 3);
    }
}
