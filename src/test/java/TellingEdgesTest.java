/** The boundary cases of a new object, of a town's telling, and of what goes on in it (promises 1 to 3, "Terms" I.). */
public final class TellingEdgesTest {
    private static final String KINDS = "pbmkdg";
    private static final String EIGHT = "pk0;".repeat(8);

    public static void main(String[] args) {
        atFirst();
        people();
        marks();
        letters();
        shapes();
        faultsOfTheFirstKind();
        faultsOfTheSecondKind();
        allOrNothing();
        lending();
        comingBack();
        kinds();
        kindsAtTheEnds();
        months();
        Edges.end();
    }

    private static void due(String call, long got, long want) {
        Edges.due(call, got, want);
    }

    private static void edge(String words, String what, Runnable test) {
        Edges.edge(words, what, test);
    }

    private static EachLendsHisFace townOf(String letters) {
        return Edges.townOf(letters);
    }

    /** What a new object answers to that telling. */
    private static void told(String letters, int want) {
        due("town of '" + letters + "'", Edges.tell(new EachLendsHisFace(), letters), want);
    }

    private static void atFirst() {
        edge("Nobody, MONTH 0.", "nobody", () -> {
            EachLendsHisFace x = new EachLendsHisFace();
            due("count(0)", x.count(0), 0);
            due("person(0, 0)", x.person(0, 0), -1);
        });
        edge("Nobody, MONTH 0.", "the month, and all else", () -> {
            EachLendsHisFace x = new EachLendsHisFace();
            for (int what = 1; what <= 7; what++) {
                due("count(" + what + ")", x.count(what), 0);
            }
        });
        edge("An object is used for at most 512 calls after it has been made", "the 512th is answered as the first", () -> {
            EachLendsHisFace x = new EachLendsHisFace();
            for (int call = 1; call <= 255; call++) {
                due("call " + (2 * call - 1), x.letter(-1), -4);
                due("call " + 2 * call, x.image(), 0);
            }
            due("call 511", x.months(60), 0);
            due("call 512", x.count(14), 255);
        });
        edge("Nobody, MONTH 0.", "two objects are two towns", () -> {
            EachLendsHisFace x = townOf("pp0;m05;");
            EachLendsHisFace y = new EachLendsHisFace();
            x.row(1);
            x.letter('p');
            due("people of the other", y.count(0) + y.count(1) + y.count(6) + y.count(7), 0);
            due("people", x.count(0), 1);
        });
    }

    private static void people() {
        edge("PEOPLE 0 .. as they come (8 at most)", "the eighth comes", () -> {
            EachLendsHisFace x = new EachLendsHisFace();
            due("town()", Edges.tell(x, "pp0;pb1;pm2;pk3;pd4;pg5;pp6;pb7;"), 8);
            due("count(0)", x.count(0), 8);
            for (int i = 0; i < 8; i++) {
                due("kind of " + i, x.person(i, 0), i % 6);
                due("figure of " + i, x.person(i, 1), i);
            }
        });
        edge("PEOPLE 0 .. as they come (8 at most)", "the ninth does not", () -> {
            EachLendsHisFace x = townOf(EIGHT);
            due("town()", Edges.tell(x, "pp9;"), -2000);
            due("count(0)", x.count(0), 8);
            due("person(8, 0)", x.person(8, 0), -1);
        });
        edge("PEOPLE 0 .. as they come (8 at most)", "later towns go on with the next number", () -> {
            EachLendsHisFace x = townOf("pp1;");
            due("town()", Edges.tell(x, "pm2;"), 1);
            due("figure of 0", x.person(0, 1), 1);
            due("figure of 1", x.person(1, 1), 2);
        });
        edge("FIGURE (0 .. 9)", "0 and 9", () -> {
            EachLendsHisFace x = townOf("pb0;pb9;");
            due("least", x.person(0, 1), 0);
            due("most", x.person(1, 1), 9);
        });
        edge("KNOWS (faces, bits; his own alone at first)", "each of eight", () -> {
            EachLendsHisFace x = townOf(EIGHT);
            for (int i = 0; i < 8; i++) {
                due("person(" + i + ", 2)", x.person(i, 2), 1 << i);
            }
        });
        edge("WEARS a face (that of a number, or 9 a PLAIN one; his own at first)", "his own at first", () -> {
            EachLendsHisFace x = townOf(EIGHT);
            for (int i = 0; i < 8; i++) {
                due("person(" + i + ", 3)", x.person(i, 3), i);
                due("face(" + i + ", 3)", x.face(i, 3), i);
            }
        });
        edge("WEARS a face (that of a number, or 9 a PLAIN one; his own at first)", "9 a plain one", () -> {
            EachLendsHisFace x = townOf(EIGHT + "l70;");
            due("the lender", x.person(7, 3), 9);
            due("the other", x.person(0, 3), 7);
        });
    }

    private static void marks() {
        edge("FAME (0 .. 99; 50 at first)", "at first, of each", () -> {
            EachLendsHisFace x = townOf(EIGHT);
            for (int i = 0; i < 8; i++) {
                due("face(" + i + ", 0)", x.face(i, 0), 50);
            }
        });
        edge("FAME (0 .. 99; 50 at first)", "0 and 99", () -> {
            EachLendsHisFace x = townOf("pk0;pk0;f000;f199;");
            due("least", x.face(0, 0), 0);
            due("most", x.face(1, 0), 99);
        });
        edge("SCARS (0 .. 99; 0 at first)", "at first, of each", () -> {
            EachLendsHisFace x = townOf(EIGHT);
            for (int i = 0; i < 8; i++) {
                due("face(" + i + ", 1)", x.face(i, 1), 0);
            }
        });
        edge("SCARS (0 .. 99; 0 at first)", "0 and 99", () -> {
            EachLendsHisFace x = townOf("pk0;");
            due("to 99", x.becomes(0, 1, 99), 0);
            due("to 0", x.becomes(0, 1, 0), 99);
            due("are", x.face(0, 1), 0);
        });
        edge("LENT (MONTHS since it was lent, 0 .. 12; 0 it is not, at first)", "0 at first, of each", () -> {
            EachLendsHisFace x = townOf(EIGHT);
            for (int i = 0; i < 8; i++) {
                due("face(" + i + ", 2)", x.face(i, 2), 0);
            }
        });
        edge("LENT (MONTHS since it was lent, 0 .. 12; 0 it is not, at first)", "month by month", () -> {
            EachLendsHisFace x = townOf("pk0;pk0;l01;");
            for (int lent = 1; lent <= 12; lent++) {
                due("lent", x.face(0, 2), lent);
                x.months(1);
            }
            due("no more", x.face(0, 2), 0);
        });
        edge("MONTH (0 .. 999; 0 at first)", "0, 999, and no more", () -> {
            EachLendsHisFace x = new EachLendsHisFace();
            due("at first", x.count(1), 0);
            x = Edges.agedTownOf("pk0;", 998);
            due("998", x.count(1), 998);
            due("one more", x.months(1), 0);
            due("999", x.count(1), 999);
            due("no more", x.months(1), -6);
            due("told no more", Edges.tell(x, "m01;"), -2000);
            due("still", x.count(1), 999);
        });
    }

    private static void letters() {
        edge("one by one (96 at most)", "96 letters are a town", () -> {
            EachLendsHisFace x = townOf("pk0;");
            due("town()", Edges.tell(x, "k00;".repeat(24)), 24);
            due("told 24 times, known as before", x.person(0, 2), 1);
        });
        edge("one by one (96 at most)", "the 97th does not come", () -> {
            EachLendsHisFace x = new EachLendsHisFace();
            for (int i = 1; i <= 96; i++) {
                due("letter " + i, x.letter(i < 3 ? 'p' : '0'), i);
            }
            due("the 97th", x.letter(';'), -6);
            due("count(7)", x.count(7), 96);
        });
        edge("The letters become a TOWN, and are no more", "without fault", () -> {
            EachLendsHisFace x = townOf("pk0;");
            due("letters", x.count(7), 0);
            due("the next telling is by itself", Edges.tell(x, "pm1;"), 1);
            due("people", x.count(0), 2);
        });
        edge("The letters become a TOWN, and are no more", "with a fault of the first kind", () -> {
            EachLendsHisFace x = new EachLendsHisFace();
            due("town()", Edges.tell(x, "pp0"), -1003);
            due("letters", x.count(7), 0);
            due("the rest alone", Edges.tell(x, ";"), -1000);
        });
        edge("The letters become a TOWN, and are no more", "with a fault of the second kind", () -> {
            EachLendsHisFace x = new EachLendsHisFace();
            due("town()", Edges.tell(x, "b0;"), -2000);
            due("letters", x.count(7), 0);
            due("the next telling", Edges.tell(x, "pp0;"), 1);
        });
        edge("the FAULT (nothing is counted)", "of either kind", () -> {
            EachLendsHisFace x = new EachLendsHisFace();
            String before = Edges.refusalsOf(x);
            due("first kind", Edges.tell(x, "x"), -1000);
            due("second kind", Edges.tell(x, "m00;"), -2000);
            due("nothing told", x.town(), -1000);
            Edges.same("refusals", Edges.refusalsOf(x), before);
        });
        edge("how many STATEMENTS", "of one, of many", () -> {
            told("pp0;", 1);
            told("m01;", 1);
            told("m01;".repeat(24), 24);
            told("pp0;pp0;k01;f000;l01;b0;m60;", 7);
        });
    }

    /** Each place of each statement is told with each of the 256 letters. */
    private static void shapes() {
        String digits = "0123456789";
        shape("\"p\" a letter of a KIND, FIGURE (a digit)", "p", KINDS, digits, ";");
        shape("\"l\" two of them (a digit each)", "l", digits, digits, ";");
        shape("\"b\" one of them (a digit)", "b", digits, ";");
        shape("\"k\" two of them (a digit each)", "k", digits, digits, ";");
        shape("\"f\" one of them (a digit), FAME (2 digits)", "f", digits, digits, digits, ";");
        shape("\"m\" MONTHS (2 digits, 1 .. 60)", "m", digits, digits, ";");
        edge("STATEMENTS, each with \";\" behind", "only these begin one", () -> {
            for (int c = 0; c < 256; c++) {
                told("" + (char) c, "plbkfm".indexOf(c) >= 0 ? -1001 : -1000);
            }
        });
        edge("STATEMENTS, each with \";\" behind", "one, not two, not none", () -> {
            told("pp0;;", -1004);
            told(";pp0;", -1000);
            told("pp0pp0;", -1003);
            told("pp0;m01", -1007);
            told("pp0; ", -1004);
        });
        edge("\"p\" a letter of a KIND, FIGURE (a digit)", "each kind", () -> {
            for (int kind = 0; kind < KINDS.length(); kind++) {
                due("kind", townOf("p" + KINDS.charAt(kind) + "0;").person(0, 0), kind);
            }
        });
        edge("the first KNOWS the FACE of the second, or, told again, not", "once, twice, three times", () -> {
            due("once", townOf("pk0;pk0;k10;").person(1, 2), 3);
            due("not the other way round", townOf("pk0;pk0;k10;").person(0, 2), 1);
            due("twice", townOf("pk0;pk0;k10;k10;").person(1, 2), 2);
            due("three times", townOf("pk0;pk0;k10;k10;k10;").person(1, 2), 3);
        });
        edge("the first KNOWS the FACE of the second, or, told again, not", "his own", () -> {
            due("not any more", townOf("pk0;pk0;k11;").person(1, 2), 0);
            due("again", townOf("pk0;pk0;k11;k11;").person(1, 2), 2);
        });
        edge("\"m\" MONTHS (2 digits, 1 .. 60)", "1 and 60", () -> {
            due("1", townOf("m01;").count(1), 1);
            due("60", townOf("m60;").count(1), 60);
        });
        edge("\"m\" MONTHS (2 digits, 1 .. 60)", "0, 61 and 99", () -> {
            told("m00;", -2000);
            told("m61;", -2000);
            told("m99;", -2000);
        });
        edge("At least one STATEMENT.", "none", () -> {
            told("", -1000);
            EachLendsHisFace x = townOf("pk0;");
            due("behind a town, too", x.town(), -1000);
            due("people", x.count(0), 1);
        });
    }

    private static void shape(String words, String... places) {
        for (int place = 0; place < places.length; place++) {
            int at = place;
            String head = "";
            for (int i = 0; i < at; i++) {
                head += places[i].charAt(0);
            }
            String begun = head;
            if (at > 0) {
                edge(words, "each letter at place " + at, () -> letterAt(begun, places[at], at == places.length - 1));
            }
        }
    }

    private static void letterAt(String begun, String fitting, boolean last) {
        // Not every digit is one of people, so a whole statement may have a fault of the second kind.
        for (int c = 0; c < 256; c++) {
            int answer = Edges.tell(townOf(EIGHT), begun + (char) c);
            boolean fits = fitting.indexOf(c) >= 0;
            String call = "town of '" + begun + "' and letter " + c;
            if (!fits) {
                due(call, answer, -1000 - begun.length());
            } else if (last) {
                due(call + " is whole", answer <= -2000 || answer > 0 ? 1 : 0, 1);
            } else {
                due(call, answer, -1001 - begun.length());
            }
        }
    }

    private static void faultsOfTheFirstKind() {
        String words = "kind 1 the place of the first letter with which no TOWN can go on";
        edge(words, "at the first letter", () -> told("x", -1000));
        edge(words, "the first of two", () -> told("pp0;xpp0;y", -1004));
        edge(words, "at the last letter", () -> told("pp0;pp0:", -1007));
        edge(words, "at the 96th letter", () -> told("m01;".repeat(23) + "m01m", -1095));
        edge(words, "the letter 0, the letter 255", () -> {
            EachLendsHisFace x = new EachLendsHisFace();
            x.letter(0);
            due("0", x.town(), -1000);
            x.letter('b');
            x.letter(255);
            due("255", x.town(), -1001);
        });
        edge("(the end, if something lacks)", "behind each letter of each statement", () -> {
            for (String whole : new String[] {"pp0;", "l01;", "b0;", "k01;", "f050;", "m01;"}) {
                for (int end = 1; end < whole.length(); end++) {
                    told(whole.substring(0, end), -1000 - end);
                    told("m01;" + whole.substring(0, end), -1004 - end);
                }
            }
        });
        edge("(the end, if something lacks)", "behind 96 letters", () -> told("m01;".repeat(23) + "f050", -1096));
        edge("(the end, if something lacks)", "nothing is there", () -> told("", -1000));
        edge("else kind 2", "the first kind goes ahead, where it stands behind, too", () -> {
            told("l99;x", -1004);
            told("m00;m0", -1006);
            told("pp0;".repeat(9) + "b", -1037);
        });
    }

    private static void faultsOfTheSecondKind() {
        String words = "kind 2 the place of the first letter of the first STATEMENT that is not as it must be";
        edge(words, "the first of two", () -> told("pp0;l01;b0;", -2004));
        edge(words, "its first letter, behind statements of all lengths", () -> told("pp0;m01;f099;b0;", -2013));
        edge(words, "at 0", () -> told("b0;pp0;", -2000));
        edge(words, "at 92", () -> told("m01;".repeat(23) + "k00;", -2092));
        String nobody = "nobody so far with that number";
        edge(nobody, "of \"l\", the first and the second", () -> {
            told("pk0;pk0;l20;", -2008);
            told("pk0;pk0;l02;", -2008);
            told("pk0;pk0;l10;", 3);
        });
        edge(nobody, "of \"b\"", () -> {
            told("pk0;pk0;l10;b2;", -2012);
            told("pk0;pk0;l10;b1;", 4);
        });
        edge(nobody, "of \"k\", the first and the second", () -> {
            told("pk0;pk0;k20;", -2008);
            told("pk0;pk0;k02;", -2008);
            told("pk0;pk0;k11;", 3);
        });
        edge(nobody, "of \"f\"", () -> {
            told("pk0;pk0;f250;", -2008);
            told("pk0;pk0;f150;", 3);
        });
        edge(nobody, "so far: one who comes behind is not there", () -> {
            told("pk0;k01;pk0;", -2004);
            told("pk0;pk0;k01;", 3);
            told("f050;pk0;", -2000);
        });
        edge(nobody, "8 and 9 with eight there", () -> {
            for (String letters : new String[] {"l08;", "l90;", "b8;", "b9;", "k08;", "k90;", "f850;", "f950;"}) {
                due(letters, Edges.tell(townOf(EIGHT), letters), -2000);
            }
            due("7", Edges.tell(townOf(EIGHT), "l70;b7;k77;f750;"), 4);
        });
        edge("one twice (of \"l\")", "of \"l\", not of \"k\"", () -> {
            told("pk0;l00;", -2004);
            told("pk0;k00;", 2);
        });
        edge("a LENDING or coming BACK that can not be", "a lending", () -> {
            told("pk0;pk0;l01;l01;", -2012);
            told("pk0;pk0;pk0;l01;l20;", -2016);
            told("pk0;pk0;pk0;l01;b0;l20;", 6);
        });
        edge("a LENDING or coming BACK that can not be", "a coming back", () -> {
            told("pk0;b0;", -2004);
            told("pk0;pk0;l01;b1;", -2012);
            told("pk0;pk0;l01;b0;b0;", -2015);
            told("pk0;pk0;l01;m11;b0;", 5);
            told("pk0;pk0;l01;m12;b0;", -2016);
        });
        edge("MONTH out of range or above 999", "up to 999 and above", () -> {
            EachLendsHisFace x = Edges.agedTownOf("pk0;", 960);
            due("to 1000", Edges.tell(x, "m40;"), -2000);
            due("to 999, and one more", Edges.tell(x, "m39;m01;"), -2004);
            due("still 960", x.count(1), 960);
            due("to 999", Edges.tell(x, "m39;"), 1);
            due("999", x.count(1), 999);
        });
        edge("no room for more", "the ninth of one telling", () -> {
            EachLendsHisFace x = new EachLendsHisFace();
            due("nine", Edges.tell(x, EIGHT + "pk0;"), -2032);
            due("nobody came", x.count(0), 0);
        });
        edge("no room for more", "the ninth of two tellings", () -> {
            EachLendsHisFace x = townOf("pk0;".repeat(7));
            due("two more", Edges.tell(x, "pk0;pk0;"), -2004);
            due("seven still", x.count(0), 7);
            due("one more", Edges.tell(x, "pk0;"), 1);
        });
    }

    private static void allOrNothing() {
        String words = "Without FAULT all of it comes, with one nothing.";
        String before = "pp3;pm4;pd7;l20;m03;k12;f107;";
        String more = "pg1;k01;f044;b2;l12;m07;k00;";
        edge(words, "all", () -> {
            EachLendsHisFace x = townOf(before);
            due("town()", Edges.tell(x, more), 7);
            due("people", x.count(0), 4);
            due("month", x.count(1), 10);
            due("knows", x.person(0, 2), 2);
            due("nobody wears face 2", x.face(2, 3), -9);
            due("face 1 is worn by", x.face(1, 3), 2);
            due("fame", x.face(0, 0), 51);
        });
        edge(words, "nothing, with a fault of the first kind at the end", () -> {
            EachLendsHisFace x = townOf(before);
            String state = Edges.stateOf(x);
            due("town()", Edges.tell(x, more + "b"), -1029);
            Edges.same("state", Edges.stateOf(x), state);
        });
        edge(words, "nothing, with a fault of the second kind at the end", () -> {
            EachLendsHisFace x = townOf(before);
            String state = Edges.stateOf(x);
            due("town()", Edges.tell(x, more + "b0;"), -2028);
            Edges.same("state", Edges.stateOf(x), state);
        });
    }

    private static void lending() {
        String words = "LENDING: it can be if both WEAR their own";
        edge(words, "not of one in a plain one", () -> {
            due("told", Edges.tell(townOf("pk0;pk0;pk0;l01;"), "l02;"), -2000);
            due("called", townOf("pk0;pk0;pk0;l01;").lends(0, 2), -3);
        });
        edge(words, "not to one in a plain one", () -> {
            due("told", Edges.tell(townOf("pk0;pk0;pk0;l01;"), "l20;"), -2000);
            due("called", townOf("pk0;pk0;pk0;l01;").lends(2, 0), -3);
        });
        edge(words, "not of one in another one's", () -> {
            due("told", Edges.tell(townOf("pk0;pk0;pk0;l01;"), "l12;"), -2000);
            due("called", townOf("pk0;pk0;pk0;l01;").lends(1, 2), -3);
        });
        edge(words, "not to one in another one's", () -> {
            due("told", Edges.tell(townOf("pk0;pk0;pk0;l01;"), "l21;"), -2000);
            due("called", townOf("pk0;pk0;pk0;l01;").lends(2, 1), -3);
        });
        edge(words, "of the last to the first, of the first to the last", () -> {
            due("7 to 0", townOf(EIGHT).lends(7, 0), 1);
            due("0 to 7", townOf(EIGHT).lends(0, 7), 1);
        });
        edge(words, "again when it came back", () -> {
            due("told", Edges.tell(townOf("pk0;pk0;l01;b0;"), "l10;"), 1);
            due("behind 12 months", Edges.tell(townOf("pk0;pk0;l01;m12;"), "l10;"), 1);
            due("behind 11 months", Edges.tell(townOf("pk0;pk0;l01;m11;"), "l10;"), -2000);
        });
        edge("the first WEARS a PLAIN one then, the second the FACE of the first, which is LENT 1", "each", () -> {
            EachLendsHisFace x = townOf("pk0;pk0;pk0;l20;");
            due("the first", x.person(2, 3), 9);
            due("the second", x.person(0, 3), 2);
            due("lent", x.face(2, 2), 1);
            due("who wears it", x.face(2, 3), 0);
            due("the third", x.person(1, 3), 1);
        });
        edge("(nobody WEARS that of the second)", "-9", () -> {
            EachLendsHisFace x = townOf("pk0;pk0;pk0;l20;");
            due("who wears it", x.face(0, 3), -9);
            due("it is not lent", x.face(0, 2), 0);
            due("not seen", x.chained(2), 2 + 4);
        });
    }

    private static void comingBack() {
        edge("BACK: it can be if the FACE is LENT", "not of him who has one", () -> {
            due("called", townOf("pk0;pk0;l01;").back(1), -3);
            due("told", Edges.tell(townOf("pk0;pk0;l01;"), "b1;"), -2000);
        });
        edge("BACK: it can be if the FACE is LENT", "once", () -> {
            EachLendsHisFace x = townOf("pk0;pk0;l01;");
            due("first", x.back(0), 1);
            due("again", x.back(0), -3);
        });
        edge("BACK: it can be if the FACE is LENT", "in its twelfth month still, and no more then", () -> {
            due("lent 12", townOf("pk0;pk0;l01;m11;").back(0), 1);
            due("lent no more", townOf("pk0;pk0;l01;m12;").back(0), -3);
        });
        edge("its owner WEARS it again, who had it his own; LENT 0", "each", () -> {
            EachLendsHisFace x = townOf("pk0;pk0;pk0;pk0;l20;l13;b2;");
            due("its owner", x.person(2, 3), 2);
            due("who had it", x.person(0, 3), 0);
            due("lent", x.face(2, 2), 0);
            due("the other face is lent still", x.face(1, 2), 1);
            due("and worn", x.face(1, 3), 3);
        });
    }

    private static int fameBehindAMonth(String letters, int face) {
        return townOf(letters + "m01;").face(face, 0);
    }

    private static int scarsBehindAMonth(String letters, int face) {
        return townOf(letters + "m01;").face(face, 1);
    }

    private static void kinds() {
        edge("p PERSON: FAME 1 more; 0.", "by every figure", () -> {
            for (int figure = 0; figure <= 9; figure++) {
                due("fame", fameBehindAMonth("pp" + figure + ";", 0), 51);
                due("scars", scarsBehindAMonth("pp" + figure + ";", 0), 0);
            }
        });
        edge("b BEGGAR under PERSON: FAME FIGURE by 3, cut, less; as a PERSON.", "by every figure", () -> {
            int[] less = {0, 0, 0, 1, 1, 1, 2, 2, 2, 3};
            for (int figure = 0; figure <= 9; figure++) {
                due("fame by " + figure, fameBehindAMonth("pb" + figure + ";", 0), 50 - less[figure]);
                due("scars by " + figure, scarsBehindAMonth("pb" + figure + ";", 0), 0);
            }
        });
        edge("m MURDERER under PERSON: FAME 2 less; SCARS 1 more.", "by every figure", () -> {
            for (int figure = 0; figure <= 9; figure++) {
                due("fame", fameBehindAMonth("pm" + figure + ";", 0), 48);
                due("scars", scarsBehindAMonth("pm" + figure + ";", 0), 1);
            }
        });
        edge("k KEEPER under PERSON: FAME as it is; 0.", "by every figure", () -> {
            for (int figure = 0; figure <= 9; figure++) {
                due("fame", fameBehindAMonth("pk" + figure + ";", 0), 50);
                due("scars", scarsBehindAMonth("pk" + figure + ";", 0), 0);
            }
        });
        edge("d DENTIST under BEGGAR: FAME 1 more for each of PEOPLE who KNOWS it", "nobody to eight", () -> {
            String town = "pd9;" + "pk0;".repeat(7) + "k00;";
            due("nobody", fameBehindAMonth(town, 0), 50);
            for (int knowers = 1; knowers < 8; knowers++) {
                town += "k" + knowers + "0;";
                due(knowers + " know it", fameBehindAMonth(town, 0), 50 + knowers);
            }
            due("eight know it", fameBehindAMonth(town + "k00;", 0), 58);
        });
        edge("d DENTIST under BEGGAR: FAME 1 more for each of PEOPLE who KNOWS it", "it: the face he wears", () -> {
            // Three know the first one's face, only the dentist his own.
            due("in another one's", fameBehindAMonth("pk0;pd0;pk0;k10;k20;l01;", 0), 53);
            due("his own rests", fameBehindAMonth("pk0;pd0;pk0;k10;k20;l01;", 1), 50);
        });
        edge("SCARS 1 more, if FIGURE is above 5", "by every figure", () -> {
            for (int figure = 0; figure <= 9; figure++) {
                due("scars by " + figure, scarsBehindAMonth("pd" + figure + ";", 0), figure > 5 ? 1 : 0);
            }
        });
        edge("g GIRL under DENTIST: FAME 2 less than a DENTIST makes it; as a DENTIST.", "fame, nobody to eight", () -> {
            String town = "pg9;" + "pk0;".repeat(7) + "k00;";
            due("nobody", fameBehindAMonth(town, 0), 48);
            for (int knowers = 1; knowers < 8; knowers++) {
                town += "k" + knowers + "0;";
                due(knowers + " know it", fameBehindAMonth(town, 0), 48 + knowers);
            }
            due("eight know it", fameBehindAMonth(town + "k00;", 0), 56);
        });
        edge("g GIRL under DENTIST: FAME 2 less than a DENTIST makes it; as a DENTIST.", "scars by every figure", () -> {
            for (int figure = 0; figure <= 9; figure++) {
                due("scars by " + figure, scarsBehindAMonth("pg" + figure + ";", 0), figure > 5 ? 1 : 0);
            }
        });
        edge("(not to a PLAIN one)", "the lender does nothing", () -> {
            EachLendsHisFace x = townOf("pm9;pk0;l01;m05;");
            due("the face that he lent", x.face(0, 0), 50);
            due("its scars", x.face(0, 1), 0);
            due("the face that rests", x.face(1, 0), 50);
            due("its scars", x.face(1, 1), 0);
        });
    }

    private static int behindAMonth(String letters, int what, int v) {
        EachLendsHisFace x = townOf(letters);
        x.becomes(0, what, v);
        x.months(1);
        return x.face(0, what);
    }

    private static void kindsAtTheEnds() {
        String words = "(FAME, SCARS 0 at least, 99 at most)";
        edge(words, "fame of a person at 98 and 99", () -> {
            due("98", behindAMonth("pp0;", 0, 98), 99);
            due("99", behindAMonth("pp0;", 0, 99), 99);
        });
        edge(words, "fame of a dentist up to 99", () -> {
            String eight = "pd0;" + "pk0;".repeat(7) + "k10;k20;k30;k40;k50;k60;k70;";
            due("90", behindAMonth(eight, 0, 90), 98);
            due("91", behindAMonth(eight, 0, 91), 99);
            due("92", behindAMonth(eight, 0, 92), 99);
            due("99", behindAMonth(eight, 0, 99), 99);
        });
        edge(words, "fame of a murderer at 3, 2, 1, 0", () -> {
            due("3", behindAMonth("pm0;", 0, 3), 1);
            due("2", behindAMonth("pm0;", 0, 2), 0);
            due("1", behindAMonth("pm0;", 0, 1), 0);
            due("0", behindAMonth("pm0;", 0, 0), 0);
        });
        edge(words, "fame of a beggar at 4 to 0", () -> {
            due("4", behindAMonth("pb9;", 0, 4), 1);
            due("3", behindAMonth("pb9;", 0, 3), 0);
            due("2", behindAMonth("pb9;", 0, 2), 0);
            due("0", behindAMonth("pb9;", 0, 0), 0);
        });
        edge(words, "fame of a girl at 3 to 0, known by nobody", () -> {
            due("3", behindAMonth("pg0;k00;", 0, 3), 1);
            due("2", behindAMonth("pg0;k00;", 0, 2), 0);
            due("1", behindAMonth("pg0;k00;", 0, 1), 0);
            due("0", behindAMonth("pg0;k00;", 0, 0), 0);
        });
        edge(words, "fame of a girl at 0 and at 98, known by three", () -> {
            String three = "pg0;pk0;pk0;k10;k20;";
            due("0", behindAMonth(three, 0, 0), 1);
            due("98", behindAMonth(three, 0, 98), 99);
            due("99", behindAMonth(three, 0, 99), 99);
        });
        edge(words, "fame of a keeper at both ends", () -> {
            due("0", behindAMonth("pk0;", 0, 0), 0);
            due("99", behindAMonth("pk0;", 0, 99), 99);
        });
        edge(words, "scars at 98 and 99 of those who make some", () -> {
            for (String town : new String[] {"pm0;", "pd6;", "pg6;"}) {
                due("98 of " + town, behindAMonth(town, 1, 98), 99);
                due("99 of " + town, behindAMonth(town, 1, 99), 99);
            }
        });
        edge(words, "scars at 0 and 99 of those who make none", () -> {
            for (String town : new String[] {"pp9;", "pb9;", "pk9;", "pd5;", "pg5;"}) {
                due("0 of " + town, behindAMonth(town, 1, 0), 0);
                due("99 of " + town, behindAMonth(town, 1, 99), 99);
            }
        });
        edge(words, "month by month, not at the end alone", () -> {
            // A person fills the face, then a murderer has it: what was above 99 is not remembered.
            EachLendsHisFace x = townOf("pp0;pm0;f099;m10;l01;m01;");
            due("fame", x.face(0, 0), 97);
            EachLendsHisFace y = townOf("pm0;pp0;f001;m10;l01;m01;");
            due("from below", y.face(0, 0), 1);
        });
    }

    private static void months() {
        edge("A MONTH: MONTH is 1 more", "with nobody, too", () -> {
            due("of one", townOf("pk0;m01;").count(1), 1);
            due("of nobody", townOf("m01;m01;").count(1), 2);
        });
        String words = "then each FACE that is LENT is so 1 MONTH more; if it were 13, it comes BACK.";
        edge(words, "12 is not 13", () -> {
            EachLendsHisFace x = townOf("pk0;pk0;l01;m11;");
            due("lent", x.face(0, 2), 12);
            due("worn by", x.face(0, 3), 1);
            due("plain", x.person(0, 3), 9);
        });
        edge(words, "13 comes back", () -> {
            EachLendsHisFace x = townOf("pk0;pk0;l01;m12;");
            due("lent", x.face(0, 2), 0);
            due("worn by", x.face(0, 3), 0);
            due("who had it", x.person(1, 3), 1);
        });
        edge(words, "each by itself", () -> {
            EachLendsHisFace x = townOf("pk0;pk0;pk0;pk0;l31;m05;l02;m06;");
            due("lent 12", x.face(3, 2), 12);
            due("lent 7", x.face(0, 2), 7);
            due("one comes back", x.months(1), 1);
            due("lent 0", x.face(3, 2), 0);
            due("lent 8", x.face(0, 2), 8);
            due("the other still", x.months(4), 1);
            due("the other comes back", x.months(1), 0);
        });
        edge(words, "one that is not lent is not counted on", () -> {
            EachLendsHisFace x = townOf("pk0;pk0;m20;");
            due("lent", x.face(0, 2), 0);
            due("count(2)", x.count(2), 0);
        });
        edge(words, "behind what each does: the twelfth month is his who has it", () -> {
            EachLendsHisFace x = townOf("pp0;pm0;l01;m12;");
            due("fame", x.face(0, 0), 50 - 24);
            due("scars", x.face(0, 1), 12);
            due("the one that rested", x.face(1, 0), 50);
            x.months(1);
            due("fame at home", x.face(0, 0), 50 - 24 + 1);
            due("his own", x.face(1, 0), 48);
        });
        edge(words, "all four of eight, the last, too", () -> {
            EachLendsHisFace x = townOf(EIGHT + "l01;l32;l45;l76;m11;");
            due("four", x.count(2), 4);
            due("none", x.months(1), 0);
        });
        edge("PEOPLE by numbers, each does so (by FAME, SCARS as they are then)", "month by month", () -> {
            EachLendsHisFace one = townOf("pp0;pb9;pm0;pk0;pd6;pg0;k04;k15;l24;m07;");
            EachLendsHisFace other = townOf("pp0;pb9;pm0;pk0;pd6;pg0;k04;k15;l24;");
            for (int i = 0; i < 7; i++) {
                other.months(1);
            }
            Edges.same("seven at once", Edges.stateOf(one), Edges.stateOf(other));
            due("fame of a face in a dentist's hands", one.face(2, 0), 57);
            due("its scars", one.face(2, 1), 7);
        });
    }
}
