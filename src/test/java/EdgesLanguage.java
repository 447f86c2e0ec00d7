/** Boundary cases of the language (part II): its tokens, clauses, values, faults and scripts. */
final class EdgesLanguage {
    private static final int NONE = ThankedMoves.NONE;
    private final Edges e;

    EdgesLanguage(Edges edges) {
        e = edges;
    }

    void run() {
        e.at("II");
        texts();
        tokens();
        clauses();
        sums();
        ones();
        asks();
        names();
        steps();
        faultPlaces();
        cantStand();
        numbers();
        nesting();
        repeated();
        theText();
        played();
    }

    /** A text with that fault (0: none) at that place. */
    private void fault(String text, int fault, int place) {
        ThankedMoves x = new ThankedMoves();
        e.due("text() of " + text, Check.text(x, text), fault == 0 ? 0 : NONE);
        e.due("fault(0) of " + text, x.fault(0), fault);
        e.due("fault(1) of " + text, x.fault(1), place);
    }

    private void stands(String text) {
        fault(text, 0, NONE);
    }

    /** What holds says of house 2 by that sum. */
    private void worth(String sum, int due, int... kinds) {
        ThankedMoves x = Check.street("holds " + sum + ";", kinds);
        e.due("fault(0) of " + sum, x.fault(0), 0);
        e.due("holds " + sum, x.of(2, 2), due);
    }

    private static String times(String part, int n) {
        return part.repeat(n);
    }

    private void texts() {
        e.says("TEXTS 0 .. 3: of up to 300 bytes.");
        e.test("the first is 0, the last 3", () -> {
            ThankedMoves x = new ThankedMoves();
            for (int i = 0; i < 4; i++) {
                e.due("text()", Check.text(x, "holds " + i + ";"), i);
            }
            e.due("a fifth", Check.text(x, "holds 1;"), NONE);
        });
        e.test("of 0 bytes", () -> stands(""));
        e.test("of 300 bytes, the last of them read", () -> {
            stands("holds " + times("1+", 146) + "1;");
            fault("holds " + times("1+", 147), 1, 300);
        });
        e.test("of 300 tokens", () -> fault(times(";", 300), 1, 0));
        e.test("of 300 bytes that are one token", () -> {
            fault(times("x", 300), 1, 0);
            fault("holds " + times("0", 294), 1, 300);
            fault("holds " + times("9", 294), 2, 6);
        });
        e.test("of 300 blanks", () -> stands(times(" ", 300)));
    }

    private void tokens() {
        e.says("TOKENS, blanks (32, 10) aside:");
        e.test("32 and 10", () -> stands("\n holds \n 1 \n ; \n"));
        e.test("blanks part words and numbers", () -> {
            fault("set tle;", 1, 0);
            fault("night 1 1;", 1, 8);
            fault("night 6\n1;", 1, 8);
        });
        e.test("nothing else is a blank", () -> {
            for (int sign : new int[] {0, 9, 11, 12, 13, 31, 33, 127, 160, 255}) {
                fault("settle" + (char) sign + ";", 1, 6);
            }
        });
        e.says("letters a .. z, A .. Z one behind the other (one TOKEN)");
        e.test("a, z, A and Z are of the word", () -> {
            for (String letter : new String[] {"a", "z", "A", "Z"}) {
                fault("settle" + letter + ";", 1, 0);
                fault("holds snow" + letter + ";", 1, 6);
            }
        });
        e.test("what is beside them is not", () -> {
            for (String sign : new String[] {"@", "[", "`", "{", "_"}) {
                fault("settle" + sign + ";", 1, 6);
            }
        });
        e.test("great letters are others than small ones", () -> {
            fault("Settle;", 1, 0);
            fault("holds NIGHT;", 1, 6);
        });
        e.test("no blank is needed beside a sign or a digit", () -> stands("night1;holds(2)+kind*3;kind1at2;"));
        e.test("a part of a word is none, nor a word with more", () -> {
            fault("settl;", 1, 0);
            fault("settlee;", 1, 0);
            fault("holds pe;", 1, 6);
            fault("holds snowhere;", 1, 6);
        });
        e.says("digits likewise (NUMBERS, 0 .. 9999)");
        e.test("0 and 9 are of the number", () -> {
            worth("90/10", 9);
            worth("109-100", 9);
        });
        e.test("what is beside them is not", () -> {
            fault("holds 1:;", 1, 7);
            worth("8/2", 4);
        });
        e.test("0 and 9999", () -> {
            worth("0", 0);
            worth("9999/1111", 9);
        });
        e.test("10000", () -> fault("holds 10000;", 2, 6));
        e.test("zeros ahead make no number greater", () -> {
            worth("0000000000000000000000007", 7);
            worth("00009999/1111", 9);
        });
        e.test("a number that would wrap around", () -> {
            fault("holds 4294967297;", 2, 6);
            fault("holds 18446744073709551617;", 2, 6);
        });
        e.says("<= >= < > = # + - * / ( ) ; (the longest).");
        e.test("<= and >= are one", () -> {
            worth("if 2<=2 then 3 else 4 end", 3);
            worth("if 2>=2 then 3 else 4 end", 3);
        });
        e.test("with a blank they are two", () -> {
            fault("holds if 1< =1 then 2 else 3 end;", 1, 12);
            fault("holds if 1> =1 then 2 else 3 end;", 1, 12);
        });
        e.test("the other way round they are two", () -> {
            fault("holds if 1=<1 then 2 else 3 end;", 1, 11);
            fault("holds if 1=>1 then 2 else 3 end;", 1, 11);
            fault("holds if 1<>1 then 2 else 3 end;", 1, 11);
            fault("holds if 1==1 then 2 else 3 end;", 1, 11);
        });
        e.test("< and > at the end of all", () -> {
            fault("holds if 1<", 1, 11);
            fault("holds if 1>", 1, 11);
        });
        e.test("other signs are none", () -> {
            for (String sign : new String[] {"!", "\"", "$", "%", "&", "'", ",", ".", ":", "?", "^", "|", "}", "~", "\\", "]"}) {
                fault("holds 1" + sign + ";", 1, 7);
            }
        });
    }

    private void clauses() {
        e.says("{CLAUSE}, 24 at most:");
        e.test("none", () -> stands(""));
        e.test("24", () -> stands(times("settle;", 24)));
        e.test("25", () -> fault(times("settle;", 25), 6, 168));
        e.test("24 and blanks", () -> stands(times("settle;", 24) + " \n"));
        e.says("holds SUM ; or gifts SUM ; (each once)");
        e.test("each once, in either order", () -> {
            stands("holds 1;gifts 1;");
            stands("gifts 1;holds 1;");
        });
        e.test("twice", () -> {
            fault("holds 1;holds 1;", 4, 8);
            fault("gifts 1;gifts 1;", 4, 8);
        });
        e.test("without a sum, or its end", () -> {
            fault("holds;", 1, 5);
            fault("gifts;", 1, 5);
            fault("holds 1", 1, 7);
            fault("gifts 1 gifts", 1, 8);
        });
        e.says("or person NUMBER ; or kind NUMBER at NUMBER ; or good NUMBER at NUMBER ; (HOUSE) or thank NUMBER ; or settle ; or night NUMBER ;.");
        e.test("each with the least and the most", () -> {
            stands("person 0;person 7;kind 0 at 0;kind 40 at 7;good 1 at 0;good 20 at 7;thank 0;thank 7;settle;night 1;night 60;");
        });
        e.test("the second number is the house", () -> {
            ThankedMoves x = new ThankedMoves();
            Check.text(x, "kind 5 at 2;good 3 at 7;");
            e.due("played(0)", x.played(0), NONE);
            e.same("kindness", Check.kinds(x), "00500003");
        });
        e.test("too short", () -> {
            fault("person;", 1, 6);
            fault("thank;", 1, 5);
            fault("night;", 1, 5);
            fault("kind;", 1, 4);
            fault("kind 1;", 1, 6);
            fault("kind 1 at;", 1, 9);
            fault("good;", 1, 4);
            fault("good 1;", 1, 6);
            fault("good 1 at;", 1, 9);
            fault("settle", 1, 6);
        });
        e.test("too long", () -> {
            fault("person 1 1;", 1, 9);
            fault("thank 1 1;", 1, 8);
            fault("night 1 1;", 1, 8);
            fault("kind 1 at 1 1;", 1, 12);
            fault("good 1 at 1 at;", 1, 12);
            fault("settle 1;", 1, 7);
            fault("settle;;", 1, 7);
        });
        e.test("a NUMBER is no SUM there", () -> {
            fault("person (1);", 1, 7);
            fault("person -1;", 1, 7);
            fault("night 1+1;", 1, 7);
            fault("kind here at 1;", 1, 5);
            fault("good 1 at here;", 1, 10);
        });
    }

    private void sums() {
        e.says("SUM: PRODUCT {+ or - PRODUCT}.");
        e.test("one product, and many", () -> {
            worth("7", 7);
            worth("9-1-1-1+2-3", 5);
        });
        e.test("nothing behind + or -, nothing ahead of +", () -> {
            fault("holds 1+;", 1, 8);
            fault("holds 1-;", 1, 8);
            fault("holds +1;", 1, 6);
        });
        e.says("PRODUCT: ONE {* or / ONE}.");
        e.test("one, and many", () -> {
            worth("8/2/2*3", 6);
            worth("2*3/4*5", 5);
        });
        e.test("a product goes ahead of a sum", () -> {
            worth("1+2*3", 7);
            worth("9-4/2", 7);
        });
        e.test("nothing behind * or /, nothing ahead of them", () -> {
            fault("holds 1*;", 1, 8);
            fault("holds 1/;", 1, 8);
            fault("holds *1;", 1, 6);
            fault("holds /1;", 1, 6);
            fault("holds 1*/1;", 1, 8);
        });
    }

    private void ones() {
        e.says("ONE: NUMBER, NAME, ( SUM ), - ONE,");
        e.test("an empty ( )", () -> fault("holds ();", 1, 7));
        e.test("a ( that is not closed, a ) that was not opened", () -> {
            fault("holds (1;", 1, 8);
            fault("holds 1);", 1, 7);
        });
        e.test("- of ONE alone", () -> {
            worth("-2+5", 3);
            worth("9--2*-2", 5);
            worth("--4", 4);
            fault("holds -;", 1, 7);
        });
        e.test("two of them without a sign between", () -> {
            fault("holds 1 1;", 1, 8);
            fault("holds kind(1);", 1, 10);
            fault("holds (1)(1);", 1, 9);
        });
        e.says("over ONE of ONE (how much the first is more than the second; 0, if it isn't),");
        e.test("more, as much, less", () -> {
            worth("over 5 of 4", 1);
            worth("over 5 of 5", 0);
            worth("over 5 of 6", 0);
        });
        e.test("less by much, and below 0", () -> {
            worth("5+over 0 of 9999", 5);
            worth("over -3 of -5", 2);
            worth("over -5 of -3", 0);
        });
        e.test("each is ONE alone", () -> {
            worth("over 9 of 2+1", 8);
            fault("holds over 1*9 of 2;", 1, 12);
        });
        e.test("one within the first and within the second", () -> {
            worth("over over 9 of 2 of 3", 4);
            worth("over 9 of over 9 of 2", 2);
        });
        e.says("house ONE (KINDNESS of the HOUSE of that number; 0 for others),");
        e.test("0 and 7", () -> {
            worth("house 0", 5, 5, 0, 0, 0, 0, 0, 0, 6);
            worth("house 7", 6, 5, 0, 0, 0, 0, 0, 0, 6);
        });
        e.test("-1 and 8", () -> {
            worth("house -1+3", 3, 5, 5, 5, 5, 5, 5, 5, 5);
            worth("house 8+3", 3, 5, 5, 5, 5, 5, 5, 5, 5);
        });
        e.test("far off", () -> {
            worth("house(9999*9999)+3", 3, 5, 5, 5, 5, 5, 5, 5, 5);
            worth("house-(9999*9999)+3", 3, 5, 5, 5, 5, 5, 5, 5, 5);
        });
        e.test("of a kindness that is no house's number", () -> worth("house house 0+3", 3, 8, 5, 5, 5, 5, 5, 5, 5));
        e.test("of ONE alone", () -> worth("house 1+1", 5, 0, 4, 7));
        e.says("if EITHER then SUM else SUM end.");
        e.test("each part is needed", () -> {
            fault("holds if then 1 else 2 end;", 1, 9);
            fault("holds if 1=1 1 else 2 end;", 1, 13);
            fault("holds if 1=1 then else 2 end;", 1, 18);
            fault("holds if 1=1 then 1 2 end;", 1, 20);
            fault("holds if 1=1 then 1 end;", 1, 20);
            fault("holds if 1=1 then 1 else end;", 1, 25);
            fault("holds if 1=1 then 1 else 2;", 1, 26);
        });
        e.test("an if in each of its places", () -> {
            worth("if if 1=1 then 1 else 2 end=1 then 3 else 4 end", 3);
            worth("if 1=1 then if 1=2 then 1 else 5 end else 7 end", 5);
            worth("if 1=2 then 1 else if 1=2 then 5 else 7 end end", 7);
        });
    }

    private void asks() {
        e.says("EITHER: BOTH {or BOTH}.");
        e.test("each of the four", () -> {
            worth("if 1=1 or 1=1 then 3 else 4 end", 3);
            worth("if 1=1 or 1=2 then 3 else 4 end", 3);
            worth("if 1=2 or 1=1 then 3 else 4 end", 3);
            worth("if 1=2 or 1=2 then 3 else 4 end", 4);
        });
        e.test("nothing behind or, nothing ahead of it", () -> {
            fault("holds if 1=1 or then 2 else 3 end;", 1, 16);
            fault("holds if or 1=1 then 2 else 3 end;", 1, 9);
        });
        e.says("BOTH: ASK {and ASK}.");
        e.test("each of the four", () -> {
            worth("if 1=1 and 1=1 then 3 else 4 end", 3);
            worth("if 1=1 and 1=2 then 3 else 4 end", 4);
            worth("if 1=2 and 1=1 then 3 else 4 end", 4);
            worth("if 1=2 and 1=2 then 3 else 4 end", 4);
        });
        e.test("and goes ahead of or", () -> {
            worth("if 1=1 or 1=1 and 1=2 then 3 else 4 end", 3);
            worth("if 1=2 and 1=1 or 1=1 then 3 else 4 end", 3);
        });
        e.test("nothing behind and", () -> fault("holds if 1=1 and then 2 else 3 end;", 1, 17));
        e.says("ASK: not ASK, or SUM one of < <= > >= = # (unlike) SUM.");
        e.test("less by 1, alike, more by 1", () -> {
            String[] relations = {"<", "<=", ">", ">=", "=", "#"};
            int[][] due = {{3, 4, 4}, {3, 3, 4}, {4, 4, 3}, {4, 3, 3}, {4, 3, 4}, {3, 4, 3}};
            for (int r = 0; r < relations.length; r++) {
                for (int i = 0; i < 3; i++) {
                    worth("if " + (4 + i) + relations[r] + "5 then 3 else 4 end", due[r][i]);
                }
            }
        });
        e.test("each of them with each by and and by or", () -> {
            String[] so = {"1<2", "2<=2", "2>1", "2>=2", "2=2", "1#2", "not 1=2"};
            String[] not = {"2<2", "2<=1", "2>2", "1>=2", "1=2", "2#2", "not 1=1"};
            for (String first : so) {
                for (String second : so) {
                    worth("if " + first + " and " + second + " then 3 else 4 end", 3);
                }
                for (String second : not) {
                    worth("if " + first + " and " + second + " then 3 else 4 end", 4);
                    worth("if " + second + " or " + first + " then 3 else 4 end", 3);
                }
            }
            for (String first : not) {
                for (String second : not) {
                    worth("if " + first + " or " + second + " then 3 else 4 end", 4);
                }
            }
        });
        e.test("not of one ASK alone, and not not", () -> {
            worth("if not 1=2 then 3 else 4 end", 3);
            worth("if not 1=1 then 3 else 4 end", 4);
            worth("if not 1=2 and 1=2 then 3 else 4 end", 4);
            worth("if not 1=1 or 1=1 then 3 else 4 end", 3);
            worth("if not not 1=1 then 3 else 4 end", 3);
        });
        e.test("a sum is no ask, an ask no sum", () -> {
            fault("holds if 1 then 2 else 3 end;", 1, 11);
            fault("holds if not 1 then 2 else 3 end;", 1, 15);
            fault("holds if (1=1) then 2 else 3 end;", 1, 11);
            fault("holds if 1=1=1 then 2 else 3 end;", 1, 12);
            fault("holds 1=1;", 1, 7);
            fault("holds not 1=1;", 1, 6);
        });
    }

    private void names() {
        e.says("NAMES: night, snow, here (the HOUSE), kind (its KINDNESS), people (how many are in it) in both;");
        e.test("in both", () -> stands("holds night+snow+here+kind+people;gifts night+snow+here+kind+people;"));
        e.test("night 0, and 9999", () -> {
            ThankedMoves x = Check.street("holds night+3;gifts night/1111;");
            e.due("of(0, 2)", x.of(0, 2), 3);
            Edges.passTo(x, 9999);
            e.due("of(0, 3)", x.of(0, 3), 9);
        });
        e.test("snow 0, and 1", () -> {
            ThankedMoves x = Check.street("holds 3+snow;gifts 5+snow;");
            e.due("of(0, 2)", x.of(0, 2), 3);
            x.years(0, 1);
            e.due("of(0, 2)", x.of(0, 2), 4);
            e.due("of(0, 3)", x.of(0, 3), 6);
        });
        e.test("here 0, and 7", () -> {
            ThankedMoves x = Check.street("holds here;gifts here;");
            e.due("of(0, 2)", x.of(0, 2), 0);
            e.due("of(7, 2)", x.of(7, 2), 7);
            e.due("of(0, 3)", x.of(0, 3), 0);
            e.due("of(7, 3)", x.of(7, 3), 7);
        });
        e.test("kind 0, and 99", () -> {
            ThankedMoves x = Check.street("holds kind/11;gifts kind/11;");
            Check.enrich(x, 4, 99);
            e.due("of(3, 2)", x.of(3, 2), 0);
            e.due("of(4, 2)", x.of(4, 2), 9);
            e.due("of(4, 3)", x.of(4, 3), 9);
        });
        e.test("people 0, and 5; those off are in no house", () -> {
            ThankedMoves x = Check.street("holds people;gifts people;");
            for (int p = 0; p < 5; p++) {
                x.person(7);
            }
            e.due("of(7, 2)", x.of(7, 2), 5);
            e.due("of(7, 3)", x.of(7, 3), 5);
            e.due("of(6, 2)", x.of(6, 2), 0);
            x.kind(7, 7);
            e.due("thank(7)", x.thank(7), true);
            e.due("of(7, 2)", x.of(7, 2), 0);
            e.due("of(0, 2)", x.of(0, 2), 0);
        });
        e.says("left, right (KINDNESS beside; 0 for nothing) in holds;");
        e.test("left of 0 and 1", () -> {
            ThankedMoves x = Check.street("holds left;", 5, 6, 7, 4, 4, 4, 4, 8);
            e.due("of(0, 2)", x.of(0, 2), 0);
            e.due("of(1, 2)", x.of(1, 2), 5);
            e.due("of(7, 2)", x.of(7, 2), 4);
        });
        e.test("right of 7 and 6", () -> {
            ThankedMoves x = Check.street("holds right;", 5, 6, 7, 4, 4, 4, 4, 8);
            e.due("of(7, 2)", x.of(7, 2), 0);
            e.due("of(6, 2)", x.of(6, 2), 8);
            e.due("of(0, 2)", x.of(0, 2), 6);
        });
        e.test("not in gifts", () -> {
            fault("gifts left;", 5, 6);
            fault("gifts right;", 5, 6);
        });
        e.says("last (how many times it was THANKED last NIGHT) in gifts.");
        e.test("0 ahead of any NIGHT", () -> e.due("of(2, 3)", Check.street("gifts last+2;").of(2, 3), 2));
        e.test("behind a NIGHT, and behind one in which it was not", () -> {
            ThankedMoves x = Check.street("gifts last;", 2, 2);
            x.night(1);
            e.due("is(4)", x.is(4), 2);
            e.due("of(2, 3)", x.of(2, 3), 2);
            e.due("of a house that was not, too", x.of(6, 3), 2);
            x.by(Check.text(x, "gifts 0;"));
            x.night(1);
            x.by(0);
            e.due("of(2, 3)", x.of(2, 3), 0);
        });
        e.test("thanks by hand are none of them", () -> {
            ThankedMoves x = Check.street("gifts last;", 2, 0, 2);
            x.thank(0);
            x.settle();
            e.due("of(2, 3)", x.of(2, 3), 0);
        });
        e.test("not in holds", () -> fault("holds last;", 5, 6));
    }

    private void steps() {
        e.says("From the left; / cuts towards 0, by 0 it is 0; what is above 1000000 (below the same less) is that, at each step.");
        e.test("from the left", () -> {
            worth("9-3-2", 4);
            worth("8/4/2", 1);
            worth("7/2*2", 6);
            worth("2*7/4", 3);
        });
        e.test("/ cuts towards 0", () -> {
            worth("7/2", 3);
            worth("5+-7/2", 2);
            worth("5+7/-2", 2);
            worth("-7/-2", 3);
            worth("5+-1/2", 5);
        });
        e.test("by 0 it is 0", () -> {
            worth("4+5/0", 4);
            worth("4+-5/0", 4);
            worth("4+0/0", 4);
            worth("4+9/(1/2)", 4);
        });
        e.test("1000000 is as it is", () -> {
            worth("1000*1000-9999*100-95", 5);
            worth("-1000*1000+9999*100+105", 5);
        });
        e.test("1000001 is 1000000", () -> {
            worth("1000*1000+1-9999*100-95", 5);
            worth("-1000*1000-1+9999*100+105", 5);
        });
        e.test("999999 is as it is", () -> {
            worth("1000*1000-1-9999*100-95", 4);
            worth("-1000*1000+1+9999*100+105", 6);
        });
        e.test("by *, at once", () -> {
            worth("9999*9999-9999*100-95", 5);
            worth("9999*9999*9999*9999-9999*100-95", 5);
            worth("-9999*9999*9999+9999*100+105", 5);
        });
        e.test("by + and -, at once", () -> {
            worth("1000*1000+9999-9999-9999*100-95", 0);
            worth("1000*1000+9999-9-9999*100-87", 4);
            worth("-1000*1000-9999+9+9999*100+97", 6);
        });
        e.test("by over", () -> worth("over(1000*1000)of(-1000*1000)-9999*100-95", 5));
        e.test("twice the highest does not wrap", () -> worth("(1000*1000)*(1000*1000)-9999*100-95", 5));
        e.says("or and and look at both sides always, of if just the SUM that is chosen is asked.");
        e.test("neither side of or and and can do harm", () -> {
            worth("if 1=1 or 1/0=house 99 then 3 else 4 end", 3);
            worth("if 1=2 and 1/0=house -9 then 3 else 4 end", 4);
        });
        e.test("the first and the last SUM that is chosen", () -> {
            worth("if 1=1 then 3 else 9999*9999 end", 3);
            worth("if 1=2 then 9999*9999 else 3 end", 3);
            worth("1+if 1=2 then 5 else if 1=1 then 3 else 7 end end*2", 7);
        });
    }

    private void faultPlaces() {
        e.says("FAULTS, the first as TOKENS are come to, at the TOKEN's first byte (of the end at the length), of one the least:");
        e.test("the first, not the least of all", () -> {
            fault("holds last;x", 5, 6);
            fault("person 8;x", 2, 7);
            fault("holds 1;holds 1;x", 4, 8);
            fault("person 8 9;", 2, 7);
        });
        e.test("at the first byte of a long one", () -> {
            fault("  settlers;", 1, 2);
            fault("night 00061;", 2, 6);
        });
        e.test("of the end at the length, blanks with it", () -> {
            fault("settle", 1, 6);
            fault("settle \n ", 1, 9);
            fault("holds", 1, 5);
            fault("holds (1", 1, 8);
        });
        e.test("1 ahead of 2", () -> {
            fault("settle 10000;", 1, 7);
            fault("10000;", 1, 0);
            fault("holds 1 10000;", 1, 8);
        });
        e.test("1 ahead of 3", () -> {
            fault("holds " + times("(", 8) + "1(", 1, 15);
            fault("holds " + times("(", 8) + "not", 1, 14);
            fault("holds " + times("(", 8) + "1 house", 1, 16);
        });
        e.test("1 ahead of 4: in a sum", () -> fault("holds 1+holds", 1, 8));
        e.test("1 ahead of 5", () -> {
            fault("gifts 1 left;", 1, 8);
            fault("last 1;", 1, 0);
            fault("person left;", 1, 7);
        });
        e.test("1 ahead of 6", () -> {
            fault(times("settle;", 24) + "x", 1, 168);
            fault(times("settle;", 24) + "1", 1, 168);
            fault(times("settle;", 24) + ";", 1, 168);
        });
        e.test("4 ahead of 6", () -> {
            fault("holds 1;" + times("settle;", 23) + "holds 1;", 4, 169);
            fault("gifts 1;" + times("settle;", 23) + "gifts 1;", 4, 169);
        });
    }

    private void cantStand() {
        e.says("1 it can't stand there, or is none.");
        e.test("what begins no clause", () -> {
            String[] words = {"at", "over", "of", "house", "if", "then", "else", "end", "or", "and", "not", "snow", "here",
                "people", "left", "right", "last", "<", "<=", ">", ">=", "=", "#", "+", "-", "*", "/", "(", ")", ";", "0"};
            for (String word : words) {
                fault(word + " 1;", 1, 0);
            }
        });
        e.test("what begins no ONE", () -> {
            String[] words = {"holds", "gifts", "person", "good", "thank", "settle", "at", "of", "then", "else", "end", "or",
                "and", "not", "<", "<=", ">", ">=", "=", "#", "+", "*", "/", ")", ";"};
            for (String word : words) {
                fault("holds " + word, 1, 6);
            }
        });
        e.test("what is no token or no word of the language", () -> {
            fault("holds !;", 1, 6);
            fault("holds nights;", 1, 6);
            fault("holds \u00e9;", 1, 6);
            fault("\u0000", 1, 0);
        });
    }

    private void numbers() {
        e.says("2 a NUMBER that isn't one of those told (above 9999; HOUSES 0 .. 7, of kind 0 .. 40, of good 1 .. 20, NIGHTS 1 .. 60).");
        e.test("above 9999", () -> {
            stands("holds 9999;");
            fault("holds 10000;", 2, 6);
        });
        e.test("houses of person", () -> {
            stands("person 0;person 7;");
            fault("person 8;", 2, 7);
        });
        e.test("houses of kind", () -> {
            stands("kind 1 at 0;kind 1 at 7;");
            fault("kind 1 at 8;", 2, 10);
        });
        e.test("houses of good", () -> {
            stands("good 1 at 0;good 1 at 7;");
            fault("good 1 at 8;", 2, 10);
        });
        e.test("houses of thank", () -> {
            stands("thank 0;thank 7;");
            fault("thank 8;", 2, 6);
        });
        e.test("of kind", () -> {
            stands("kind 0 at 1;kind 40 at 1;");
            fault("kind 41 at 1;", 2, 5);
        });
        e.test("of good", () -> {
            stands("good 1 at 1;good 20 at 1;");
            fault("good 0 at 1;", 2, 5);
            fault("good 21 at 1;", 2, 5);
        });
        e.test("nights", () -> {
            stands("night 1;night 60;");
            fault("night 0;", 2, 6);
            fault("night 61;", 2, 6);
        });
        e.test("far above", () -> {
            fault("person 10000;", 2, 7);
            fault("kind 99999999999 at 1;", 2, 5);
            fault("good 1 at 4294967296;", 2, 10);
        });
        e.test("no house of a law is one of those", () -> stands("holds house 8+house 9999;"));
    }

    private void nesting() {
        e.says("3 the 9th of ( not over house if and - (of one ONE) that are open around one another (at it; over till its second is whole).");
        e.test("(", () -> {
            stands("holds " + times("(", 8) + "1" + times(")", 8) + ";");
            fault("holds " + times("(", 9) + "1" + times(")", 9) + ";", 3, 14);
        });
        e.test("not", () -> {
            stands("holds if " + times("not ", 7) + "1=1 then 1 else 2 end;");
            fault("holds if " + times("not ", 8) + "1=1 then 1 else 2 end;", 3, 37);
        });
        e.test("over in its first", () -> {
            stands("holds " + times("over ", 8) + "1" + times(" of 1", 8) + ";");
            fault("holds " + times("over ", 9) + "1" + times(" of 1", 9) + ";", 3, 46);
        });
        e.test("over in its second", () -> {
            stands("holds " + times("over 1 of ", 8) + "1;");
            fault("holds " + times("over 1 of ", 9) + "1;", 3, 86);
        });
        e.test("house", () -> {
            stands("holds " + times("house ", 8) + "1;");
            fault("holds " + times("house ", 9) + "1;", 3, 54);
        });
        e.test("if in what it asks", () -> {
            stands("holds " + times("if 1=", 8) + "1" + times(" then 1 else 1 end", 8) + ";");
            fault("holds " + times("if 1=", 9) + "1", 3, 46);
        });
        e.test("if behind then", () -> {
            stands("holds " + times("if 1=1 then ", 8) + "1" + times(" else 2 end", 8) + ";");
            fault("holds " + times("if 1=1 then ", 9) + "1", 3, 102);
        });
        e.test("if behind else", () -> {
            stands("holds " + times("if 1=1 then 1 else ", 8) + "1" + times(" end", 8) + ";");
            fault("holds " + times("if 1=1 then 1 else ", 9) + "1", 3, 158);
        });
        e.test("- of one ONE", () -> {
            stands("holds " + times("-", 8) + "1;");
            fault("holds " + times("-", 9) + "1;", 3, 14);
        });
        e.test("- of two is none of them", () -> {
            stands("holds " + times("(", 8) + "1-1" + times(")", 8) + ";");
            stands("holds " + times("1-", 20) + "1;");
        });
        e.test("of all kinds, one around another", () -> {
            String seven = "(-house over if not (";
            stands("holds " + seven + "-1)=1 then 1 else 2 end of 1);");
            fault("holds " + seven + "-(1)", 3, 28);
        });
        e.test("what is closed is not around any more", () -> {
            stands("holds " + times("(", 7) + "(1)+(1)" + times(")", 7) + ";");
            stands("holds " + times("(", 7) + "-1*-1" + times(")", 7) + ";");
            stands("holds " + times("(", 7) + "house 1+house 2" + times(")", 7) + ";");
            stands("holds " + times("(", 7) + "over 1 of 2+over 1 of 2" + times(")", 7) + ";");
            stands("holds " + times("(", 6) + "if not 1=1 and not 1=1 then(1)else(2)end" + times(")", 6) + ";");
        });
        e.test("over till its second is whole", () -> {
            stands("holds " + times("(", 6) + "over(1)of(2)" + times(")", 6) + ";");
            fault("holds " + times("(", 7) + "over(1)of 2", 3, 17);
            fault("holds " + times("(", 7) + "over 1 of(2)", 3, 22);
        });
        e.test("not till its ASK is whole, both sides of it", () -> {
            fault("holds " + times("(", 6) + "if not(1)=1", 3, 18);
            fault("holds " + times("(", 6) + "if not 1=(1)", 3, 21);
            stands("holds " + times("(", 6) + "if not 1=1 or(1)=1 then 1 else 2 end" + times(")", 6) + ";");
        });
        e.test("if till its end", () -> {
            fault("holds " + times("(", 7) + "if 1=1 then 1 else(1)", 3, 31);
            stands("holds " + times("(", 7) + "if 1=1 then 1 else 2 end+(1)" + times(")", 7) + ";");
        });
    }

    private void repeated() {
        e.says("4 holds, gifts for the second time (at it).");
        e.test("one behind the other, and apart", () -> {
            fault("holds 1;holds 1;", 4, 8);
            fault("gifts 1;settle;holds 1;gifts 1;", 4, 23);
        });
        e.test("the first alone is none, nor one of each", () -> stands("settle;holds 1;settle;gifts 1;settle;"));
        e.test("at it, ahead of what is wrong in it", () -> fault("holds 1;holds x;", 4, 8));
        e.test("in another text it is not the second time", () -> {
            ThankedMoves x = new ThankedMoves();
            e.due("text()", Check.text(x, "holds 1;"), 0);
            e.due("text()", Check.text(x, "holds 1;holds 2;"), NONE);
            e.due("text()", Check.text(x, "holds 1;"), 1);
        });
        e.says("5 a NAME that isn't of that CLAUSE (at it).");
        e.test("left, right in gifts", () -> {
            fault("gifts left;", 5, 6);
            fault("gifts 1+(right);", 5, 9);
        });
        e.test("last in holds", () -> {
            fault("holds last;", 5, 6);
            fault("holds if 1=last then 1 else 2 end;", 5, 11);
        });
        e.test("behind the other law", () -> {
            fault("holds left;gifts left;", 5, 17);
            fault("gifts last;holds last;", 5, 17);
        });
        e.says("6 the 25th CLAUSE (at its first TOKEN).");
        e.test("a law", () -> fault(times("settle;", 24) + "holds 1;", 6, 168));
        e.test("laws count too", () -> fault("holds 1;gifts 1;" + times("settle;", 22) + " settle;", 6, 171));
        e.test("at it, ahead of what is wrong in it", () -> fault(times("settle;", 24) + "person 9;", 6, 168));
    }

    private void theText() {
        e.says("THE TEXT (told; at first none) rules.");
        e.test("at first none", () -> e.due("about(2)", new ThankedMoves().about(2), NONE));
        e.test("one that is read does not rule yet", () -> {
            ThankedMoves x = new ThankedMoves();
            Check.text(x, "holds 5;gifts 5;");
            e.due("of(0, 2)", x.of(0, 2), 0);
            x.by(0);
            e.due("of(0, 2)", x.of(0, 2), 5);
        });
        e.says("holds: 0 at least, 9 at most; without: 0.");
        e.test("-1 is 0, 0 is 0", () -> {
            worth("-1", 0);
            worth("0", 0);
            worth("-9999*9999", 0);
        });
        e.test("9 is 9, 10 is 9", () -> {
            worth("9", 9);
            worth("10", 9);
            worth("9999*9999", 9);
        });
        e.test("without", () -> {
            e.due("no text", new ThankedMoves().of(0, 2), 0);
            e.due("a text of gifts", Check.street("gifts 5;").of(0, 2), 0);
        });
        e.says("gifts: 0 at least, 9 at most; without: 1 and SNOW.");
        e.test("-1 is 0, 0 is 0", () -> {
            e.due("of(0, 3)", Check.street("gifts -1;").of(0, 3), 0);
            e.due("of(0, 3)", Check.street("gifts 0;").of(0, 3), 0);
        });
        e.test("9 is 9, 10 is 9", () -> {
            e.due("of(0, 3)", Check.street("gifts 9;").of(0, 3), 9);
            e.due("of(0, 3)", Check.street("gifts 10;").of(0, 3), 9);
        });
        e.test("without, and in SNOW", () -> {
            ThankedMoves x = new ThankedMoves();
            e.due("of(0, 3)", x.of(0, 3), 1);
            x.years(0, 1);
            e.due("of(0, 3)", x.of(0, 3), 2);
            x.by(Check.text(x, "holds 5;"));
            e.due("of(0, 3)", x.of(0, 3), 2);
        });
    }

    private void played() {
        e.says("PLAYED by a TEXT: its CLAUSES but laws, in their order, as by hand;");
        e.test("of no clause", () -> e.due("played(0)", Check.street("").played(0), NONE));
        e.test("of laws alone", () -> {
            ThankedMoves x = new ThankedMoves();
            Check.text(x, "holds 5;gifts 5;");
            e.due("played(0)", x.played(0), NONE);
            e.due("they do not rule by that", x.of(0, 2), 0);
        });
        e.test("of 24", () -> {
            ThankedMoves x = new ThankedMoves();
            Check.text(x, times("good 1 at 3;", 24));
            e.due("played(0)", x.played(0), NONE);
            e.due("of(3, 0)", x.of(3, 0), 24);
            e.due("about(3)", x.about(3), 24);
        });
        e.test("in their order", () -> {
            ThankedMoves x = new ThankedMoves();
            Check.text(x, "kind 1 at 3;good 1 at 3;thank 3;kind 5 at 3;");
            e.due("played(0)", x.played(0), NONE);
            e.same("kindness", Check.kinds(x), "00151000");
        });
        e.test("under the law that rules, not its own", () -> {
            ThankedMoves x = Check.street("holds 3;");
            Check.text(x, "kind 4 at 3;thank 3;holds 0;");
            e.due("played(1)", x.played(1), 1);
        });
        e.says("one that can't be ends it (of so many NIGHTS those that can pass do): its number among all CLAUSES (from 0); what was done stays.");
        e.test("a sixth PERSON", () -> {
            ThankedMoves x = new ThankedMoves();
            Check.text(x, times("person 1;", 6) + "kind 9 at 7;");
            e.due("played(0)", x.played(0), 5);
            e.due("about(0)", x.about(0), 5);
            e.due("of(7, 0)", x.of(7, 0), 0);
        });
        e.test("good beyond 99", () -> {
            ThankedMoves x = new ThankedMoves();
            Check.text(x, "kind 40 at 3;good 20 at 3;good 20 at 3;good 19 at 3;good 1 at 3;kind 9 at 7;");
            e.due("played(0)", x.played(0), 4);
            e.same("kindness", Check.kinds(x), "000[99]0000");
        });
        e.test("a house that can't be thanked", () -> {
            ThankedMoves x = new ThankedMoves();
            Check.text(x, "kind 2 at 3;thank 3;thank 3;kind 9 at 7;");
            e.due("played(0)", x.played(0), 2);
            e.same("kindness", Check.kinds(x), "00101000");
        });
        e.test("settled, though it need not be", () -> {
            ThankedMoves x = new ThankedMoves();
            Check.text(x, "kind 2 at 3;settle;settle;kind 9 at 7;");
            e.due("played(0)", x.played(0), 2);
            e.same("kindness", Check.kinds(x), "00101000");
        });
        e.test("the first", () -> {
            ThankedMoves x = new ThankedMoves();
            Check.text(x, "thank 3;kind 9 at 7;");
            e.refused(x, "played(0)", () -> x.played(0), 0);
        });
        e.test("the 24th", () -> {
            ThankedMoves x = new ThankedMoves();
            Check.text(x, times("kind 1 at 3;", 23) + "thank 3;");
            e.due("played(0)", x.played(0), 23);
        });
        e.test("laws count too", () -> {
            ThankedMoves x = new ThankedMoves();
            Check.text(x, "holds 1;gifts 1;thank 3;");
            e.due("played(0)", x.played(0), 2);
        });
        e.test("of so many NIGHTS those that can pass do", () -> {
            ThankedMoves x = Edges.inNight(9997);
            Check.text(x, "kind 1 at 3;night 3;kind 9 at 7;");
            e.due("played(0)", x.played(0), 1);
            e.due("is(0)", x.is(0), 9999);
            e.due("of(7, 0)", x.of(7, 0) < 9, true);
        });
        e.test("as many NIGHTS as can pass", () -> {
            ThankedMoves x = Edges.inNight(9997);
            Check.text(x, "night 2;");
            e.due("played(0)", x.played(0), NONE);
            e.due("is(0)", x.is(0), 9999);
            e.due("none can", x.played(0), 0);
        });
    }
}
