/** The boundary cases of every refusal: the last that is taken, the first that is not, and which of several is told. */
public final class RefusalsEdgesTest {
    /** 0 has lent to 1; 2 and 3 are at home. */
    private static final String TOWN = "pp2;pb7;pm4;pk0;l01;m02;";
    private static final int[] NOBODY = {-1, 4, 8, 9, Edges.LEAST, Edges.MOST};

    public static void main(String[] args) {
        letter();
        person();
        face();
        worth();
        lends();
        back();
        learns();
        becomes();
        turn();
        months();
        faceThen();
        wornThen();
        first();
        meets();
        deceived();
        famous();
        lend();
        take();
        keep();
        chained();
        lot();
        fewest();
        who();
        widow();
        twins();
        two();
        quarrel();
        mean();
        whatIs();
        row();
        lots();
        on();
        Edges.end();
    }

    private static void edge(String words, String what, Runnable test) {
        Edges.edge(words, what, test);
    }

    /** The town, with a row and letters that a refusal must leave as they are. */
    private static EachLendsHisFace town() {
        EachLendsHisFace x = Edges.townOf(TOWN);
        x.row(7);
        x.letter('p');
        return x;
    }

    private static void refused(String call, int number, Edges.Call asks) {
        Edges.refused(town(), call, asks, number);
    }

    private static void refusedFar(String call, int number, Edges.Call asks) {
        Edges.refusedFar(town(), call, asks, number);
    }

    private static void refusedFarthest(String call, int number, Edges.Call asks) {
        Edges.refusedFarthest(town(), call, asks, number);
    }

    private static void taken(String call, long want, Edges.Call asks) {
        Edges.taken(town(), call, asks, want);
    }

    private interface OfOne {
        long ask(EachLendsHisFace x, int one);
    }

    /** Nobody has these numbers, in a town of four, of eight, and of none. */
    private static void nobody(String words, String what, OfOne asks, boolean farOff) {
        edge(words, "-1 " + what, () -> {
            for (int one : NOBODY) {
                Edges.refused(town(), what + " " + one, x -> asks.ask(x, one), -1, farOff ? Edges.FAR + 1 : -1);
            }
            Edges.refused(new EachLendsHisFace(), what + " 0 of none", x -> asks.ask(x, 0), -1, farOff ? Edges.FAR + 1 : -1);
            EachLendsHisFace eight = Edges.townOf("pk0;".repeat(8));
            Edges.refused(eight, what + " 8 of eight", x -> asks.ask(x, 8), -1, farOff ? Edges.FAR + 1 : -1);
        });
    }

    private static void nobody(String words, String what, OfOne asks) {
        nobody(words, what, asks, false);
    }

    /** These whats are none: below 0, the first above, and the ends. */
    private static void other(String words, int ways, OfOne asks) {
        edge(words, "-2", () -> {
            for (int what : new int[] {-1, ways, ways + 1, Edges.LEAST, Edges.MOST}) {
                refused("what " + what, -2, x -> asks.ask(x, what));
            }
        });
    }

    /** These numbers are below the least and above the greatest. */
    private static void outside(String words, String what, int least, int most, OfOne asks) {
        edge(words, "-4 " + what, () -> {
            refused(what + " below", -4, x -> asks.ask(x, least - 1));
            refused(what + " far below", -4, x -> asks.ask(x, Edges.LEAST));
        });
        edge(words, "-6 " + what, () -> {
            refused(what + " above", -6, x -> asks.ask(x, most + 1));
            refused(what + " far above", -6, x -> asks.ask(x, Edges.MOST));
        });
    }

    private static void letter() {
        String words = "A letter (0 .. 255) comes: how many there are. -4; -6 (255; 96, too).";
        outside(words, "a letter", 0, 255, (x, c) -> x.letter(c));
        edge(words, "0 and 255 come", () -> {
            taken("letter(0)", 2, x -> x.letter(0));
            taken("letter(255)", 2, x -> x.letter(255));
        });
        edge(words, "96, too", () -> {
            EachLendsHisFace x = new EachLendsHisFace();
            for (int i = 0; i < 95; i++) {
                x.letter('p');
            }
            Edges.taken(x, "the 96th", y -> y.letter('p'), 96);
            Edges.refused(x, "the 97th", y -> y.letter('p'), -6);
        });
        edge(words, "-4 ahead of -6", () -> {
            EachLendsHisFace x = new EachLendsHisFace();
            for (int i = 0; i < 96; i++) {
                x.letter('p');
            }
            Edges.refused(x, "below with 96", y -> y.letter(-1), -4);
            Edges.refused(x, "above with 96", y -> y.letter(256), -6);
        });
    }

    private static void person() {
        String words = "Of one: 0 KIND (0 p, 1 b, 2 m, 3 k, 4 d, 5 g), 1 FIGURE, 2 KNOWS (bits), 3 which FACE he WEARS (9 PLAIN). -1; -2.";
        nobody(words, "one", (x, one) -> x.person(one, 0));
        other(words, 4, (x, what) -> x.person(0, what));
        edge(words, "the last one, the last what", () -> taken("person(3, 3)", 3, x -> x.person(3, 3)));
        edge(words, "-1 ahead of -2", () -> refused("person(4, 4)", -1, x -> x.person(4, 4)));
    }

    private static void face() {
        String words = "Of a FACE: 0 FAME, 1 SCARS, 2 LENT, 3 who WEARS it (-9). -1; -2.";
        nobody(words, "face", (x, face) -> x.face(face, 0));
        other(words, 4, (x, what) -> x.face(0, what));
        edge(words, "the last face, the last what", () -> taken("face(3, 3)", 3, x -> x.face(3, 3)));
        edge(words, "-9 is no refusal", () -> taken("face(1, 3)", -9, x -> x.face(1, 3)));
        edge(words, "-1 ahead of -2", () -> refused("face(4, 4)", -1, x -> x.face(4, 4)));
    }

    private static void worth() {
        String words = "WORTH. Refused as told: -1.";
        nobody(words, "face", (x, face) -> x.worth(face), true);
        edge(words, "the last face", () -> taken("worth(3)", 50, x -> x.worth(3)));
        edge("Of worth(), lot(), lots() REFUSALS are 1000000000 less them (-1 is told as 1000000001)", "worth()", () ->
            Edges.due("worth(4)", town().worth(4), 1000000001));
    }

    private static void lends() {
        String words = "The first LENDS to the second: how many FACES are LENT. -1 either (one twice, too); -3 it can not be.";
        nobody(words, "the first", (x, one) -> x.lends(one, 3));
        nobody(words, "the second", (x, one) -> x.lends(3, one));
        edge(words, "one twice, who could and who could not", () -> {
            refused("lends(2, 2)", -1, x -> x.lends(2, 2));
            refused("lends(0, 0)", -1, x -> x.lends(0, 0));
            refused("lends(4, 4)", -1, x -> x.lends(4, 4));
        });
        edge(words, "-3", () -> {
            refused("lends(0, 2)", -3, x -> x.lends(0, 2));
            refused("lends(2, 0)", -3, x -> x.lends(2, 0));
            refused("lends(1, 2)", -3, x -> x.lends(1, 2));
            refused("lends(2, 1)", -3, x -> x.lends(2, 1));
            refused("lends(1, 0)", -3, x -> x.lends(1, 0));
        });
        edge(words, "taken", () -> {
            taken("lends(2, 3)", 2, x -> x.lends(2, 3));
            taken("lends(3, 2)", 2, x -> x.lends(3, 2));
        });
        edge(words, "-1 ahead of -3", () -> refused("lends(0, 4)", -1, x -> x.lends(0, 4)));
    }

    private static void back() {
        String words = "His FACE comes BACK: who had it. -1; -3 it is not LENT.";
        nobody(words, "one", (x, one) -> x.back(one));
        edge(words, "-3", () -> {
            refused("back(1): he has one", -3, x -> x.back(1));
            refused("back(2): he is at home", -3, x -> x.back(2));
        });
        edge(words, "taken once", () -> {
            EachLendsHisFace x = town();
            Edges.taken(x, "back(0)", y -> y.back(0), 1);
            Edges.refused(x, "back(0) again", y -> y.back(0), -3);
        });
    }

    private static void learns() {
        String words = "The first KNOWS the FACE of the second, or not any more: 1, 0. -1 either.";
        nobody(words, "the first", (x, one) -> x.learns(one, 0));
        nobody(words, "the second", (x, one) -> x.learns(0, one));
        edge(words, "1, 0, 1", () -> {
            EachLendsHisFace x = town();
            Edges.taken(x, "learns(3, 0)", y -> y.learns(3, 0), 1);
            Edges.due("knows", x.person(3, 2), 8 + 1);
            Edges.taken(x, "learns(3, 0) again", y -> y.learns(3, 0), 0);
            Edges.due("knows no more", x.person(3, 2), 8);
            Edges.taken(x, "learns(3, 0) once more", y -> y.learns(3, 0), 1);
        });
        edge(words, "one twice is not refused", () -> {
            taken("learns(3, 3)", 0, x -> x.learns(3, 3));
        });
    }

    private static void becomes() {
        String words = "FAME (what 0), SCARS (1) become v: what they were. -1; -2; -4; -6 99.";
        nobody(words, "face", (x, face) -> x.becomes(face, 0, 5));
        other(words, 2, (x, what) -> x.becomes(0, what, 5));
        outside(words, "fame", 0, 99, (x, v) -> x.becomes(0, 0, v));
        outside(words, "scars", 0, 99, (x, v) -> x.becomes(0, 1, v));
        edge(words, "0 and 99", () -> {
            EachLendsHisFace x = town();
            Edges.taken(x, "fame 0", y -> y.becomes(3, 0, 0), 50);
            Edges.taken(x, "fame 99", y -> y.becomes(3, 0, 99), 0);
            Edges.taken(x, "scars 99", y -> y.becomes(3, 1, 99), 0);
            Edges.taken(x, "scars 0", y -> y.becomes(3, 1, 0), 99);
            Edges.due("fame", x.face(3, 0), 99);
            Edges.due("scars", x.face(3, 1), 0);
        });
        edge(words, "in the order in which it tells them", () -> {
            refused("-1 ahead of -2", -1, x -> x.becomes(4, 2, 5));
            refused("-1 ahead of -4", -1, x -> x.becomes(4, 0, -1));
            refused("-2 ahead of -4", -2, x -> x.becomes(0, 2, -1));
            refused("-2 ahead of -6", -2, x -> x.becomes(0, 2, 100));
        });
    }

    private static void turn() {
        String words = "KIND, FIGURE become others: 10 times the KIND and the FIGURE it had. -1; -2; -4; -6 9.";
        nobody(words, "one", (x, one) -> x.turn(one, 0, 0));
        other(words, 6, (x, kind) -> x.turn(0, kind, 0));
        outside(words, "figure", 0, 9, (x, figure) -> x.turn(0, 0, figure));
        edge(words, "the least and the greatest of both", () -> {
            EachLendsHisFace x = town();
            Edges.taken(x, "turn(1, 5, 9)", y -> y.turn(1, 5, 9), 17);
            Edges.taken(x, "turn(1, 0, 0)", y -> y.turn(1, 0, 0), 59);
            Edges.taken(x, "turn(1, 0, 9)", y -> y.turn(1, 0, 9), 0);
            Edges.taken(x, "turn(1, 5, 0)", y -> y.turn(1, 5, 0), 9);
            Edges.taken(x, "turn(1, 1, 1)", y -> y.turn(1, 1, 1), 50);
        });
        edge(words, "in the order in which it tells them", () -> {
            refused("-1 ahead of -2", -1, x -> x.turn(4, 6, 0));
            refused("-1 ahead of -6", -1, x -> x.turn(4, 0, 10));
            refused("-2 ahead of -4", -2, x -> x.turn(0, 6, -1));
            refused("-2 ahead of -6", -2, x -> x.turn(0, -1, 10));
        });
    }

    private static void months() {
        String words = "n MONTHS (1 .. 60) go by: how many FACES are LENT. -4; -6 (60; MONTH above 999).";
        outside(words, "months", 1, 60, (x, n) -> x.months(n));
        edge(words, "1 and 60", () -> {
            taken("months(1)", 1, x -> x.months(1));
            taken("months(60)", 0, x -> x.months(60));
        });
        edge(words, "up to 999, and above", () -> {
            EachLendsHisFace x = Edges.agedTownOf("pk0;", 939);
            Edges.taken(x, "to 999", y -> y.months(60), 0);
            Edges.refused(x, "one more", y -> y.months(1), -6);
            EachLendsHisFace z = Edges.agedTownOf("pk0;", 940);
            Edges.refused(z, "to 1000", y -> y.months(60), -6);
            Edges.taken(z, "to 999", y -> y.months(59), 0);
        });
        edge(words, "-4 at 999, too", () -> {
            EachLendsHisFace x = Edges.agedTownOf("pk0;", 999);
            Edges.refused(x, "months(0)", y -> y.months(0), -4);
            Edges.refused(x, "months(most)", y -> y.months(Edges.MOST), -6);
        });
    }

    private static void faceThen() {
        String words = "FAME (what 0), SCARS (1), LENT (2), who WEARS it (3; -9). -1; -4; -6 60; -2.";
        nobody(words, "face", (x, face) -> x.faceThen(face, 5, 0));
        outside(words, "months", 0, 60, (x, n) -> x.faceThen(0, n, 0));
        other(words, 4, (x, what) -> x.faceThen(0, 5, what));
        edge(words, "0 and 60, and the last what", () -> {
            taken("faceThen(3, 0, 0)", 50, x -> x.faceThen(3, 0, 0));
            taken("faceThen(3, 60, 3)", 3, x -> x.faceThen(3, 60, 3));
            taken("faceThen(1, 0, 3)", -9, x -> x.faceThen(1, 0, 3));
        });
        edge(words, "in the order in which it tells them", () -> {
            refused("-1 ahead of -4", -1, x -> x.faceThen(4, -1, 0));
            refused("-1 ahead of -6", -1, x -> x.faceThen(4, 61, 0));
            refused("-1 ahead of -2", -1, x -> x.faceThen(4, 5, 4));
            refused("-4 ahead of -2", -4, x -> x.faceThen(0, -1, 4));
            refused("-6 ahead of -2", -6, x -> x.faceThen(0, 61, 4));
        });
    }

    private static void wornThen() {
        String words = "Which FACE one WEARS (9). -1; -4; -6 60.";
        nobody(words, "one", (x, one) -> x.wornThen(one, 5));
        outside(words, "months", 0, 60, (x, n) -> x.wornThen(0, n));
        edge(words, "0 and 60", () -> {
            taken("wornThen(0, 0)", 9, x -> x.wornThen(0, 0));
            taken("wornThen(3, 60)", 3, x -> x.wornThen(3, 60));
        });
        edge(words, "in the order in which it tells them", () -> {
            refused("-1 ahead of -4", -1, x -> x.wornThen(4, -1));
            refused("-1 ahead of -6", -1, x -> x.wornThen(4, 61));
        });
    }

    private static void first() {
        String words = "FIRST: which (what 0; -9), when (1; -9), HOME (2; -9). -2.";
        other(words, 3, (x, what) -> x.first(what));
        edge(words, "-9 is no refusal, and the last what", () -> {
            EachLendsHisFace x = Edges.townOf("pk0;");
            Edges.taken(x, "first(0)", y -> y.first(0), -9);
            Edges.taken(x, "first(1)", y -> y.first(1), -9);
            taken("first(2)", 10, y -> y.first(2));
        });
    }

    private static void meets() {
        String words = "MEETS: 9 a stranger. -1 either (one twice, too).";
        nobody(words, "the first", (x, one) -> x.meets(one, 0));
        nobody(words, "the second", (x, one) -> x.meets(0, one));
        edge(words, "one twice", () -> {
            refused("meets(0, 0)", -1, x -> x.meets(0, 0));
            refused("meets(3, 3)", -1, x -> x.meets(3, 3));
        });
        edge(words, "a stranger is no refusal", () -> {
            taken("meets(3, 2)", 9, x -> x.meets(3, 2));
            taken("meets(0, 1)", 0, x -> x.meets(0, 1));
        });
    }

    private static void deceived() {
        String words = "DECEIVED (what 0), GREETED (1). -1; -2.";
        nobody(words, "one", (x, one) -> x.deceived(one, 0));
        other(words, 2, (x, what) -> x.deceived(0, what));
        edge(words, "the last one", () -> {
            taken("deceived(3, 1)", 0, x -> x.deceived(3, 1));
            taken("deceived(1, 0)", 1, x -> x.deceived(1, 0));
        });
        edge(words, "-1 ahead of -2", () -> refused("deceived(4, 2)", -1, x -> x.deceived(4, 2)));
    }

    private static void famous() {
        String words = "FAMOUS (what 0; -9), UGLIEST (1; -9). -2.";
        other(words, 2, (x, what) -> x.famous(what));
        edge(words, "-9 is no refusal", () -> {
            Edges.taken(new EachLendsHisFace(), "famous(0)", x -> x.famous(0), -9);
            Edges.taken(new EachLendsHisFace(), "famous(1)", x -> x.famous(1), -9);
        });
    }

    private static void lend() {
        String words = "LEND (what 0; -9), HARM (1; -9). -1; -4; -6 24; -2; -3 he does not WEAR his own.";
        nobody(words, "one", (x, one) -> x.lend(one, 5, 0));
        outside(words, "months", 0, 24, (x, n) -> x.lend(2, n, 0));
        other(words, 2, (x, what) -> x.lend(2, 5, what));
        edge(words, "-3", () -> {
            refused("in a plain one", -3, x -> x.lend(0, 5, 0));
            refused("in another one's", -3, x -> x.lend(1, 5, 1));
        });
        edge(words, "0 and 24", () -> {
            taken("lend(2, 0, 0)", -9, x -> x.lend(2, 0, 0));
            taken("lend(2, 24, 0)", 3, x -> x.lend(2, 24, 0));
            taken("lend(3, 24, 1)", 2, x -> x.lend(3, 24, 1));
        });
        edge(words, "in the order in which it tells them", () -> {
            refused("-1 ahead of -4", -1, x -> x.lend(4, -1, 0));
            refused("-1 ahead of -6", -1, x -> x.lend(4, 25, 0));
            refused("-1 ahead of -2", -1, x -> x.lend(4, 5, 2));
            refused("-4 ahead of -2", -4, x -> x.lend(2, -1, 2));
            refused("-6 ahead of -2", -6, x -> x.lend(2, 25, 2));
            refused("-4 ahead of -3", -4, x -> x.lend(0, -1, 0));
            refused("-6 ahead of -3", -6, x -> x.lend(0, 25, 0));
            refused("-2 ahead of -3", -2, x -> x.lend(0, 5, 2));
        });
    }

    private static void take() {
        String words = "TAKE; -9. -1; -4; -6 24; -3 he does not WEAR his own.";
        nobody(words, "one", (x, one) -> x.take(one, 5));
        outside(words, "months", 0, 24, (x, n) -> x.take(2, n));
        edge(words, "-3", () -> {
            refused("in a plain one", -3, x -> x.take(0, 5));
            refused("in another one's", -3, x -> x.take(1, 5));
        });
        edge(words, "0 and 24", () -> {
            taken("take(2, 0)", -9, x -> x.take(2, 0));
            taken("take(2, 24)", 3, x -> x.take(2, 24));
        });
        edge(words, "in the order in which it tells them", () -> {
            refused("-1 ahead of -4", -1, x -> x.take(4, -1));
            refused("-1 ahead of -6", -1, x -> x.take(4, 25));
            refused("-4 ahead of -3", -4, x -> x.take(0, -1));
            refused("-6 ahead of -3", -6, x -> x.take(0, 25));
        });
    }

    private static void keep() {
        String words = "KEEP; -9. -4; -6 24.";
        outside(words, "months", 0, 24, (x, n) -> x.keep(n));
        edge(words, "0 and 24", () -> {
            taken("keep(0)", -9, x -> x.keep(0));
            taken("keep(24)", 0, x -> x.keep(24));
        });
    }

    private static void chained() {
        String words = "CHAINED (what 0), PLAIN (1, bits), SEEN (2, bits). -2.";
        other(words, 3, (x, what) -> x.chained(what));
        edge(words, "each what", () -> {
            taken("chained(0)", 1, x -> x.chained(0));
            taken("chained(1)", 1, x -> x.chained(1));
            taken("chained(2)", 1 + 4 + 8, x -> x.chained(2));
        });
    }

    private static void lot() {
        String words = "LOT: bits (what 0), that WORTH (1). Refused as told: -2.";
        edge(words, "-2", () -> {
            for (int what : new int[] {-1, 2, Edges.LEAST, Edges.MOST}) {
                refusedFar("lot(" + what + ")", -2, x -> x.lot(what));
            }
        });
        edge(words, "each what", () -> {
            Edges.taken(new EachLendsHisFace(), "lot(0)", x -> x.lot(0), 0);
            Edges.taken(new EachLendsHisFace(), "lot(1)", x -> x.lot(1), 0);
        });
        edge("Of worth(), lot(), lots() REFUSALS are 1000000000 less them (-1 is told as 1000000001)", "lot()", () ->
            Edges.due("lot(2)", town().lot(2), 1000000002));
    }

    private static void fewest() {
        String words = "FEWEST: how many (what 0; -9), the lender (1; -9). -1; -4; -6 99; -2.";
        nobody(words, "face", (x, face) -> x.fewest(face, 50, 0));
        outside(words, "v", 0, 99, (x, v) -> x.fewest(0, v, 0));
        other(words, 2, (x, what) -> x.fewest(0, 50, what));
        edge(words, "0 and 99", () -> {
            taken("fewest(3, 0, 0)", 0, x -> x.fewest(3, 0, 0));
            taken("fewest(3, 99, 0)", -9, x -> x.fewest(3, 99, 0));
            taken("fewest(3, 99, 1)", -9, x -> x.fewest(3, 99, 1));
        });
        edge(words, "in the order in which it tells them", () -> {
            refused("-1 ahead of -4", -1, x -> x.fewest(4, -1, 0));
            refused("-1 ahead of -6", -1, x -> x.fewest(4, 100, 0));
            refused("-1 ahead of -2", -1, x -> x.fewest(4, 50, 2));
            refused("-4 ahead of -2", -4, x -> x.fewest(0, -1, 2));
            refused("-6 ahead of -2", -6, x -> x.fewest(0, 100, 2));
        });
    }

    private static void who() {
        String words = "WHO by the ROW (bits; it stays). -1.";
        nobody(words, "face", (x, face) -> x.who(face));
        edge(words, "the last face", () -> taken("who(3)", 0, x -> x.who(3)));
    }

    private static void widow() {
        String words = "WIDOW; -9. -1 either (one twice, too).";
        nobody(words, "the first", (x, one) -> x.widow(one, 0));
        nobody(words, "the second", (x, one) -> x.widow(0, one));
        edge(words, "one twice", () -> {
            refused("widow(0, 0)", -1, x -> x.widow(0, 0));
            refused("widow(3, 3)", -1, x -> x.widow(3, 3));
        });
        edge(words, "-9 is no refusal", () -> taken("widow(3, 2)", -9, x -> x.widow(3, 2)));
    }

    private static void twins() {
        String words = "TWINS: how many (what 0), the first (1; -9). -2.";
        other(words, 2, (x, what) -> x.twins(what));
        edge(words, "-9 is no refusal", () ->
            Edges.taken(new EachLendsHisFace(), "twins(1)", x -> x.twins(1), -9));
    }

    private static void two() {
        String words = "TWO; -9. -1 either (one twice, too); -4; -6 24.";
        nobody(words, "the first", (x, one) -> x.two(one, 3, 5));
        nobody(words, "the second", (x, one) -> x.two(3, one, 5));
        outside(words, "months", 0, 24, (x, n) -> x.two(2, 3, n));
        edge(words, "one twice", () -> {
            refused("two(2, 2, 5)", -1, x -> x.two(2, 2, 5));
            refused("two(0, 0, 5)", -1, x -> x.two(0, 0, 5));
        });
        edge(words, "0 and 24", () -> {
            taken("two(2, 3, 0)", 0, x -> x.two(2, 3, 0));
            taken("two(2, 3, 24)", 1, x -> x.two(2, 3, 24));
        });
        edge(words, "in the order in which it tells them", () -> {
            refused("-1 ahead of -4", -1, x -> x.two(4, 0, -1));
            refused("-1 ahead of -6", -1, x -> x.two(0, 4, 25));
            refused("one twice ahead of -4", -1, x -> x.two(2, 2, -1));
            refused("one twice ahead of -6", -1, x -> x.two(2, 2, 25));
        });
    }

    private static void quarrel() {
        String words = "QUARREL, part 0 above, 1 below the line. Refused as told: -1; -4 (n, v; t below 2); -6 (7; 20; 99); -2.";
        edge(words, "-1", () -> {
            for (int face : NOBODY) {
                refusedFarthest("face " + face, -1, x -> x.quarrel(face, 3, 2, 5, 0));
            }
        });
        edge(words, "-4 n", () -> {
            refusedFarthest("n -1", -4, x -> x.quarrel(0, -1, 2, 5, 0));
            refusedFarthest("n least", -4, x -> x.quarrel(0, Edges.LEAST, 2, 5, 0));
        });
        edge(words, "-4 t", () -> {
            for (int t : new int[] {1, 0, -1, Edges.LEAST}) {
                refusedFarthest("t " + t, -4, x -> x.quarrel(0, 3, t, 5, 0));
            }
        });
        edge(words, "-4 v", () -> {
            refusedFarthest("v -1", -4, x -> x.quarrel(0, 3, 2, -1, 0));
            refusedFarthest("v least", -4, x -> x.quarrel(0, 3, 2, Edges.LEAST, 0));
        });
        edge(words, "-6 n", () -> {
            refusedFarthest("n 8", -6, x -> x.quarrel(0, 8, 2, 5, 0));
            refusedFarthest("n most", -6, x -> x.quarrel(0, Edges.MOST, 2, 5, 0));
        });
        edge(words, "-6 t", () -> {
            refusedFarthest("t 21", -6, x -> x.quarrel(0, 3, 21, 5, 0));
            refusedFarthest("t most", -6, x -> x.quarrel(0, 3, Edges.MOST, 5, 0));
        });
        edge(words, "-6 v", () -> {
            refusedFarthest("v 100", -6, x -> x.quarrel(0, 3, 2, 100, 0));
            refusedFarthest("v most", -6, x -> x.quarrel(0, 3, 2, Edges.MOST, 0));
        });
        edge(words, "-2", () -> {
            for (int part : new int[] {-1, 2, Edges.LEAST, Edges.MOST}) {
                refusedFarthest("part " + part, -2, x -> x.quarrel(0, 3, 2, 5, part));
            }
        });
        edge(words, "the least and the greatest of each", () -> {
            taken("quarrel(3, 0, 2, 0, 0)", 1, x -> x.quarrel(3, 0, 2, 0, 0));
            taken("quarrel(3, 7, 20, 99, 1)", 1, x -> x.quarrel(3, 7, 20, 99, 1));
        });
        edge(words, "in the order in which it tells them", () -> {
            refusedFarthest("-1 ahead of all", -1, x -> x.quarrel(4, -1, 21, 100, 2));
            refusedFarthest("-1 ahead of -6", -1, x -> x.quarrel(4, 8, 21, 100, 0));
            refusedFarthest("-1 ahead of -2", -1, x -> x.quarrel(4, 3, 2, 5, 2));
            refusedFarthest("-4 of n ahead of -6", -4, x -> x.quarrel(0, -1, 21, 100, 2));
            refusedFarthest("-4 of t ahead of -6", -4, x -> x.quarrel(0, 8, 1, 100, 2));
            refusedFarthest("-4 of v ahead of -6", -4, x -> x.quarrel(0, 8, 21, -1, 2));
            refusedFarthest("-6 of n ahead of -2", -6, x -> x.quarrel(0, 8, 2, 5, 2));
            refusedFarthest("-6 of t ahead of -2", -6, x -> x.quarrel(0, 3, 21, 5, 2));
            refusedFarthest("-6 of v ahead of -2", -6, x -> x.quarrel(0, 3, 2, 100, 2));
        });
        edge("of longs 4000000000000000000 less them (-1 as 4000000000000000001)", "quarrel()", () ->
            Edges.due("quarrel of nobody", town().quarrel(4, 0, 2, 0, 0), 4000000000000000001L));
    }

    private static void mean() {
        String words = "MEAN. Refused as told: -2.";
        edge(words, "-2", () -> {
            for (int part : new int[] {-1, 2, Edges.LEAST, Edges.MOST}) {
                refusedFarthest("mean(" + part + ")", -2, x -> x.mean(part));
            }
        });
        edge(words, "nobody is no refusal", () -> {
            Edges.taken(new EachLendsHisFace(), "mean(0)", x -> x.mean(0), 0);
            Edges.taken(new EachLendsHisFace(), "mean(1)", x -> x.mean(1), 1);
        });
        edge("of longs 4000000000000000000 less them (-1 as 4000000000000000001)", "mean()", () ->
            Edges.due("mean(2)", town().mean(2), 4000000000000000002L));
    }

    private static void whatIs() {
        String words = "WHAT ONE IS by the ROW (it stays): KINDS (what 0, bits), FIGURES (1). -1; -2.";
        nobody(words, "one", (x, one) -> x.whatIs(one, 0));
        other(words, 2, (x, what) -> x.whatIs(2, what));
        edge(words, "-2 of one in a plain one, too", () -> refused("whatIs(0, 2)", -2, x -> x.whatIs(0, 2)));
        edge(words, "a plain one is no refusal", () -> taken("whatIs(0, 0)", 0, x -> x.whatIs(0, 0)));
        edge(words, "-1 ahead of -2", () -> refused("whatIs(4, 2)", -1, x -> x.whatIs(4, 2)));
    }

    private static void row() {
        String words = "A number more of the ROW (0 .. 99): how many. -4; -6 (99; 16, too).";
        outside(words, "a number", 0, 99, (x, v) -> x.row(v));
        edge(words, "0 and 99 come", () -> {
            taken("row(0)", 2, x -> x.row(0));
            taken("row(99)", 2, x -> x.row(99));
        });
        edge(words, "16, too", () -> {
            EachLendsHisFace x = Edges.withRow(new EachLendsHisFace(), new int[15]);
            Edges.taken(x, "the 16th", y -> y.row(5), 16);
            Edges.refused(x, "the 17th", y -> y.row(5), -6);
        });
        edge(words, "-4 ahead of -6", () -> {
            EachLendsHisFace x = Edges.withRow(new EachLendsHisFace(), new int[16]);
            Edges.refused(x, "below with 16", y -> y.row(-1), -4);
            Edges.refused(x, "above with 16", y -> y.row(100), -6);
        });
    }

    private static void lots() {
        String words = "LOTS: WORTHS (what 0), SCARS (1). Refused as told: -4; -6 20; -2; -3 nobody is there.";
        edge(words, "-4", () -> {
            for (int n : new int[] {0, -1, Edges.LEAST}) {
                refusedFar("lots(" + n + ", 1, 0)", -4, x -> x.lots(n, 1, 0));
            }
        });
        edge(words, "-6", () -> {
            for (int n : new int[] {21, Edges.MOST}) {
                refusedFar("lots(" + n + ", 1, 0)", -6, x -> x.lots(n, 1, 0));
            }
        });
        edge(words, "-2", () -> {
            for (int what : new int[] {-1, 2, Edges.LEAST, Edges.MOST}) {
                refusedFar("lots(1, 1, " + what + ")", -2, x -> x.lots(1, 1, what));
            }
        });
        edge(words, "-3", () -> {
            Edges.refusedFar(new EachLendsHisFace(), "lots(1, 1, 0)", x -> x.lots(1, 1, 0), -3);
            Edges.refusedFar(new EachLendsHisFace(), "lots(20, 1, 1)", x -> x.lots(20, 1, 1), -3);
            Edges.taken(Edges.townOf("pk0;"), "lots(20, 1, 1) of one", x -> x.lots(20, 1, 1), 0);
        });
        edge(words, "no seed is refused", () -> {
            for (int z : new int[] {0, -1, Edges.LEAST, Edges.MOST}) {
                Edges.taken(Edges.townOf("pk0;pk0;"), "lots(20, " + z + ", 0)", x -> x.lots(20, z, 0), 2000);
            }
        });
        edge(words, "in the order in which it tells them", () -> {
            EachLendsHisFace x = new EachLendsHisFace();
            Edges.refusedFar(x, "-4 ahead of -2", y -> y.lots(0, 1, 2), -4);
            Edges.refusedFar(x, "-6 ahead of -2", y -> y.lots(21, 1, 2), -6);
            Edges.refusedFar(x, "-2 ahead of -3", y -> y.lots(1, 1, 2), -2);
            Edges.refusedFar(x, "-4 ahead of -3", y -> y.lots(0, 1, 0), -4);
            Edges.refusedFar(x, "-6 ahead of -3", y -> y.lots(21, 1, 0), -6);
        });
        edge("Of worth(), lot(), lots() REFUSALS are 1000000000 less them (-1 is told as 1000000001)", "lots()", () ->
            Edges.due("lots(21, 1, 0)", town().lots(21, 1, 0), 1000000006));
    }

    private static void on() {
        String words = "ON from it: MONTH. -3 there is none.";
        edge(words, "-3", () -> refused("on()", -3, x -> x.on()));
        edge(words, "once there is one, always", () -> {
            EachLendsHisFace x = town();
            x.image();
            Edges.taken(x, "on()", y -> y.on(), 2);
            Edges.taken(x, "on() again", y -> y.on(), 2);
        });
    }
}
