/** For each promise of the document: ordinary calls, the edges that it names, and wrong inputs. */
public final class PromisesTest {
    private static final int FAR = 1000000000;
    private static final long FARTHEST = 4000000000000000000L;
    private static final int[] STRANGE = {-1, Integer.MIN_VALUE, Integer.MAX_VALUE};

    private static int passed = 0;
    private static int failed = 0;
    private static int promise = 0;

    private static void due(String call, long got, long want) {
        if (got == want) {
            passed++;
        } else {
            failed++;
            System.out.println("promise " + promise + ": " + call + " answered " + got + ", due is " + want);
        }
    }

    private static int tell(EachLendsHisFace x, String letters) {
        for (char c : letters.toCharArray()) {
            x.letter(c);
        }
        return x.town();
    }

    private static EachLendsHisFace townOf(String letters) {
        EachLendsHisFace x = new EachLendsHisFace();
        int answer = letters.isEmpty() ? 0 : tell(x, letters);
        if (answer < 0) {
            due("the town " + letters, answer, 1);
        }
        return x;
    }

    private static void rowOf(EachLendsHisFace x, int... numbers) {
        x.clear();
        for (int v : numbers) {
            x.row(v);
        }
    }

    public static void main(String[] args) {
        newObject();
        letter();
        townComes();
        townIsBroken();
        townIsNotAsItMustBe();
        fullTown();
        person();
        face();
        worth();
        lends();
        back();
        learns();
        becomes();
        turn();
        months();
        monthsByKinds();
        faceThen();
        wornThen();
        first();
        meets();
        deceived();
        famous();
        lend();
        take();
        keep();
        chained();
        lot();
        fewest();
        who();
        widow();
        twins();
        two();
        quarrel();
        mean();
        whatIs();
        row();
        judge();
        clear();
        lots();
        image();
        on();
        count();
        System.out.println(passed + " passed, " + failed + " failed");
        if (failed != 0) {
            System.exit(1);
        }
    }

    private static void newObject() {
        promise = 1;
        EachLendsHisFace x = new EachLendsHisFace();
        for (int what = 0; what <= 7; what++) {
            due("count(" + what + ")", x.count(what), 0);
        }
        for (int what = 11; what <= 16; what++) {
            due("count(" + what + ")", x.count(what), 0);
        }
        due("on()", x.on(), -3);
        due("person(0, 0)", x.person(0, 0), -1);
    }

    private static void letter() {
        promise = 2;
        EachLendsHisFace x = new EachLendsHisFace();
        due("letter(-1)", x.letter(-1), -4);
        due("letter(least)", x.letter(Integer.MIN_VALUE), -4);
        due("letter(256)", x.letter(256), -6);
        due("letter(most)", x.letter(Integer.MAX_VALUE), -6);
        due("letter(0)", x.letter(0), 1);
        due("letter(255)", x.letter(255), 2);
        for (int i = 3; i <= 96; i++) {
            due("letter(112)", x.letter(112), i);
        }
        due("the 97th", x.letter(112), -6);
        due("below, with no room", x.letter(-1), -4);
        due("count(7)", x.count(7), 96);
        due("count(14)", x.count(14), 3);
        due("count(16)", x.count(16), 3);
        due("town()", x.town(), -1000);
        due("letter behind a town", x.letter(112), 1);
    }

    private static void townComes() {
        promise = 3;
        EachLendsHisFace x = new EachLendsHisFace();
        due("all statements", tell(x, "pp2;pb7;pm4;k01;k01;k12;f037;l02;m03;b0;l10;"), 11);
        due("letters", x.count(7), 0);
        due("people", x.count(0), 3);
        due("month", x.count(1), 3);
        due("kinds", x.person(2, 0), 2);
        due("told twice, not known", x.person(0, 2), 1);
        due("known", x.person(1, 2), 6);
        due("fame less three months of a murderer", x.face(0, 0), 37 - 6);
        due("scars", x.face(0, 1), 3);
        due("back", x.face(0, 2), 0);
        due("lent", x.face(1, 2), 1);
        due("worn", x.person(0, 3), 1);
        due("one more of people", tell(x, "pg9;"), 1);
        due("he is the fourth", x.person(3, 0), 5);
        due("96 letters", tell(x, "k01;".repeat(24)), 24);
        due("known as before", x.person(0, 2), 1);
        due("his own, not known", tell(x, "k22;"), 1);
        due("he does not know it", x.person(2, 2), 0);
        due("months till 999", tell(x, "m60;".repeat(16) + "m36;"), 17);
        due("month 999", x.count(1), 999);
    }

    private static void townIsBroken() {
        String[] told = {"", "x", ";", "p", "pp", "pp0", "px0;", "pP0;", "ppx;", "pp;", "pp0p", "pp0;x", "l", "l0", "l01",
            "l012", "lx1;", "l0x;", "b", "b0", "b0x", "b;", "k0;", "k012;", "f", "f0", "f00", "f000", "f00;", "f0000;", "m",
            "m1", "m12", "m1;", "m123;", "m:0;", "m/0;", "pp0;pp0;l01;b0;m0", "l99;x", "pp0; pp0;"};
        int[] places = {0, 0, 0, 1, 2, 3, 1, 1, 2, 2, 3, 4, 1, 2, 3, 3, 1, 2, 1, 2, 2, 1, 2, 3, 1, 2, 3, 4, 3, 4, 1, 2, 3, 2,
            3, 1, 1, 17, 4, 4};
        for (int i = 0; i < told.length; i++) {
            EachLendsHisFace x = new EachLendsHisFace();
            due("town of '" + told[i] + "'", tell(x, told[i]), -1000 - places[i]);
            due("nobody comes with '" + told[i] + "'", x.count(0), 0);
            due("letters behind '" + told[i] + "'", x.count(7), 0);
            for (int what = 11; what <= 16; what++) {
                due("nothing is counted", x.count(what), 0);
            }
        }
        EachLendsHisFace x = new EachLendsHisFace();
        due("a letter of 0", x.letter(0), 1);
        due("town()", x.town(), -1000);
        tell(x, "pp0;");
        due("96 and something lacks", tell(x, "k00;".repeat(23) + "k00k"), -1095);
        due("the end of 96", tell(x, "k00;".repeat(23) + "b0;p"), -1096);
    }

    private static void townIsNotAsItMustBe() {
        String[] told = {"l01;", "pp0;l00;", "pp0;l01;", "pp0;l10;", "pp0;pp0;l01;l01;", "pp0;pp0;l01;l10;", "b0;", "pp0;b0;",
            "pp0;pp0;l01;b1;", "pp0;pp0;l01;m12;b0;", "k00;", "pp0;k01;", "pp0;k10;", "f050;", "pp0;f150;", "m00;", "m61;",
            "m99;", "pp0;k09;", "pp0;m01;m00;x", "pp0;".repeat(9)};
        int[] places = {0, 4, 4, 4, 12, 12, 0, 4, 12, 16, 0, 4, 4, 0, 4, 0, 0, 0, 4, -1, 32};
        for (int i = 0; i < told.length; i++) {
            EachLendsHisFace x = new EachLendsHisFace();
            int want = places[i] < 0 ? -1012 : -2000 - places[i];
            due("town of '" + told[i] + "'", tell(x, told[i]), want);
            due("nothing comes with '" + told[i] + "'", x.count(0) + x.count(1) + x.count(7), 0);
        }
        EachLendsHisFace x = townOf("pp0;pb3;l01;" + "m60;".repeat(16));
        due("above 999", tell(x, "m39;m01;"), -2004);
        due("still 960", x.count(1), 960);
        due("up to 999", tell(x, "m39;"), 1);
        due("one lender twice", tell(x, "l01;m01;"), -2004);
        due("he has it still", x.person(0, 3), 0);
    }

    /** With 8 people every row is full: nothing may look beyond its end. */
    private static void fullTown() {
        promise = 1;
        EachLendsHisFace x = townOf("pm0;".repeat(7) + "pp0;");
        for (int i = 0; i < 16; i++) {
            x.row(0);
        }
        due("judge()", x.judge(), 8);
        due("worth(7)", x.worth(7), 50);
        due("deceived(7, 1)", x.deceived(7, 1), 0);
        due("twins(0)", x.twins(0), 28);
        due("lend(0, 6, 0)", x.lend(0, 6, 0), 7);
        due("take(7, 6)", x.take(7, 6), -9);
        due("keep(6)", x.keep(6), -9);
        due("lot(0)", x.lot(0), 0);
        due("lot(1)", x.lot(1), 4 * 50 + 3 * (50 - 36) + 62);
        due("fewest(0, 99, 0)", x.fewest(0, 99, 0), -9);
        due("two(6, 7, 6)", x.two(6, 7, 6), 10);
        due("who(7)", x.who(7), 255);
        due("first(0)", x.first(0), 0);
        due("first(2)", x.first(2), 0);
        x.lends(7, 0);
        due("widow(7, 1)", x.widow(7, 1), -9);
        due("wearer of none", x.face(0, 3), -9);
        due("keep(6) of the last", x.keep(6), 7);
        due("chained(0)", x.chained(0), 1);
        due("chained(1)", x.chained(1), 128);
        due("chained(2)", x.chained(2), 254);
        due("count(5)", x.count(5), 128);
        due("first(2) with one lent", x.first(2), 12);
        due("famous(0)", x.famous(0), 0);
        due("lots(20, 5, 1)", x.lots(20, 5, 1) < FAR ? 1 : 0, 1);
        due("months(60)", x.months(60), 0);
    }

    private static void person() {
        promise = 4;
        EachLendsHisFace x = townOf("pp0;pb1;pm2;pk3;pd4;pg9;k03;k05;l21;");
        int[] figures = {0, 1, 2, 3, 4, 9};
        int[] knows = {1 + 8 + 32, 2, 4, 8, 16, 32};
        int[] wears = {0, 2, 9, 3, 4, 5};
        for (int i = 0; i < 6; i++) {
            due("kind of " + i, x.person(i, 0), i);
            due("figure of " + i, x.person(i, 1), figures[i]);
            due("knows of " + i, x.person(i, 2), knows[i]);
            due("wears of " + i, x.person(i, 3), wears[i]);
        }
        due("person(6, 0)", x.person(6, 0), -1);
        due("person(6, 9)", x.person(6, 9), -1);
        due("person(5, 4)", x.person(5, 4), -2);
        for (int strange : STRANGE) {
            due("person(strange, 0)", x.person(strange, 0), -1);
            due("person(0, strange)", x.person(0, strange), -2);
        }
    }

    private static void face() {
        promise = 5;
        EachLendsHisFace x = townOf("pp0;pm0;l01;m02;");
        due("fame", x.face(0, 0), 46);
        due("scars", x.face(0, 1), 2);
        due("lent", x.face(0, 2), 3);
        due("who wears it", x.face(0, 3), 1);
        due("fame of an unworn one", x.face(1, 0), 50);
        due("not lent", x.face(1, 2), 0);
        due("nobody wears it", x.face(1, 3), -9);
        due("face(2, 0)", x.face(2, 0), -1);
        due("face(2, 4)", x.face(2, 4), -1);
        due("face(0, 4)", x.face(0, 4), -2);
        for (int strange : STRANGE) {
            due("face(strange, 0)", x.face(strange, 0), -1);
            due("face(0, strange)", x.face(0, strange), -2);
        }
    }

    private static void worth() {
        promise = 6;
        EachLendsHisFace x = townOf("pp0;");
        due("worth(0)", x.worth(0), 50);
        x.becomes(0, 1, 99);
        due("below 0", x.worth(0), -49);
        x.becomes(0, 0, 0);
        due("least", x.worth(0), -99);
        due("worth(1)", x.worth(1), FAR + 1);
        due("worth(-1)", x.worth(-1), FAR + 1);
        due("counted", x.count(11), 2);
    }

    private static void lends() {
        promise = 7;
        EachLendsHisFace x = townOf("pp0;".repeat(8));
        due("lends(0, 1)", x.lends(0, 1), 1);
        due("the lender wears a plain one", x.person(0, 3), 9);
        due("the other his", x.person(1, 3), 0);
        due("lent 1", x.face(0, 2), 1);
        due("nobody wears that of the other", x.face(1, 3), -9);
        due("lender again", x.lends(0, 2), -3);
        due("to the lender", x.lends(2, 0), -3);
        due("of the other", x.lends(1, 2), -3);
        due("to the other", x.lends(2, 1), -3);
        due("lends(7, 6)", x.lends(7, 6), 2);
        due("lends(3, 2)", x.lends(3, 2), 3);
        due("lends(4, 5)", x.lends(4, 5), 4);
        due("one twice", x.lends(4, 4), -1);
        due("lends(8, 0)", x.lends(8, 0), -1);
        due("lends(0, 8)", x.lends(0, 8), -1);
        due("lends(8, 8)", x.lends(8, 8), -1);
        due("lends(-1, 0)", x.lends(-1, 0), -1);
        due("refused -3", x.count(13), 4);
    }

    private static void back() {
        promise = 8;
        EachLendsHisFace x = townOf("pp0;pp0;pp0;l20;m05;");
        due("back(0): he has it only", x.back(0), -3);
        due("back(2)", x.back(2), 0);
        due("its owner wears it", x.person(2, 3), 2);
        due("and he who had it his own", x.person(0, 3), 0);
        due("lent 0", x.face(2, 2), 0);
        due("back again", x.back(2), -3);
        due("back(3)", x.back(3), -1);
        due("back(-1)", x.back(-1), -1);
    }

    private static void learns() {
        promise = 9;
        EachLendsHisFace x = townOf("pp0;pp0;");
        due("learns(0, 1)", x.learns(0, 1), 1);
        due("knows", x.person(0, 2), 3);
        due("the other does not", x.person(1, 2), 2);
        due("again", x.learns(0, 1), 0);
        due("his own", x.learns(0, 0), 0);
        due("knows nobody", x.person(0, 2), 0);
        due("his own again", x.learns(0, 0), 1);
        due("learns(0, 2)", x.learns(0, 2), -1);
        due("learns(2, 0)", x.learns(2, 0), -1);
        due("learns(-1, 0)", x.learns(-1, 0), -1);
        due("learns(0, most)", x.learns(0, Integer.MAX_VALUE), -1);
    }

    private static void becomes() {
        promise = 10;
        EachLendsHisFace x = townOf("pp0;");
        due("fame", x.becomes(0, 0, 99), 50);
        due("scars", x.becomes(0, 1, 7), 0);
        due("fame was", x.becomes(0, 0, 0), 99);
        due("scars are", x.face(0, 1), 7);
        due("nobody", x.becomes(1, 5, -1), -1);
        due("what", x.becomes(0, 2, -1), -2);
        due("what below", x.becomes(0, -1, 0), -2);
        due("below", x.becomes(0, 1, -1), -4);
        due("above", x.becomes(0, 1, 100), -6);
        due("nothing changed", x.face(0, 1), 7);
    }

    private static void turn() {
        promise = 11;
        EachLendsHisFace x = townOf("pp0;pg9;");
        due("turn(1, 2, 3)", x.turn(1, 2, 3), 59);
        due("turn(1, 5, 0)", x.turn(1, 5, 0), 23);
        due("turn(0, 0, 9)", x.turn(0, 0, 9), 0);
        due("kind", x.person(1, 0), 5);
        due("figure", x.person(0, 1), 9);
        due("nobody", x.turn(2, 6, 10), -1);
        due("kind 6", x.turn(0, 6, 10), -2);
        due("kind -1", x.turn(0, -1, 0), -2);
        due("figure -1", x.turn(0, 0, -1), -4);
        due("figure 10", x.turn(0, 0, 10), -6);
        due("unchanged", x.person(0, 1), 9);
    }

    private static void months() {
        promise = 12;
        EachLendsHisFace x = townOf("pp0;pm0;pk0;pk0;l01;m01;l23;");
        due("months(0)", x.months(0), -4);
        due("months(61)", x.months(61), -6);
        due("months(most)", x.months(Integer.MAX_VALUE), -6);
        due("both lent", x.months(10), 2);
        due("lent 12", x.face(0, 2), 12);
        due("the first comes back", x.months(1), 1);
        due("the other is lent 12", x.face(2, 2), 12);
        due("he wears his own", x.person(1, 3), 1);
        due("the other comes back", x.months(1), 0);
        due("fame of 12 months in another one's hands, and one at home", x.face(0, 0), 50 - 24 + 1);
        due("fame of one month at home", x.face(1, 0), 50 - 2);
        due("month", x.count(1), 13);
        for (int i = 0; i < 16; i++) {
            x.months(60);
        }
        due("month 973", x.count(1), 973);
        due("above 999", x.months(27), -6);
        due("up to 999", x.months(26), 0);
        due("one more", x.months(1), -6);
        due("month 999", x.count(1), 999);
    }

    private static void monthsByKinds() {
        // Three know face 4, four know face 5 (each its owner too).
        EachLendsHisFace x = townOf("pp5;pb8;pm5;pk5;pd5;pg6;k04;k14;k05;k15;k25;m01;");
        int[] fame = {51, 48, 48, 50, 53, 52};
        int[] scars = {0, 0, 1, 0, 0, 1};
        for (int i = 0; i < 6; i++) {
            due("fame of kind " + i, x.face(i, 0), fame[i]);
            due("scars of kind " + i, x.face(i, 1), scars[i]);
        }
        x.turn(4, 4, 6);
        x.turn(5, 5, 5);
        x.turn(1, 1, 2);
        x.months(1);
        due("dentist above 5", x.face(4, 1), 1);
        due("girl of 5", x.face(5, 1), 1);
        due("beggar of 2", x.face(1, 0), 48);
        x = townOf("pp0;pm0;pd9;pg0;pb9;f099;f101;f298;f301;f401;k02;k12;");
        x.becomes(1, 1, 99);
        x.becomes(2, 1, 99);
        x.months(1);
        int[] ends = {99, 0, 99, 0, 0};
        for (int i = 0; i < 5; i++) {
            due("fame stays within 0 .. 99 of " + i, x.face(i, 0), ends[i]);
        }
        due("scars stay at 99", x.face(1, 1) + x.face(2, 1), 198);
        // Nobody knows the face any more: a dentist makes nothing of it, a girl 2 less.
        x = townOf("pd0;pg0;k00;k11;m02;");
        due("dentist unknown", x.face(0, 0), 50);
        due("girl unknown", x.face(1, 0), 46);
        // The one who wears a face does to it as he is, by those who know that face.
        x = townOf("pp0;pd7;k10;l01;m01;");
        due("fame by a dentist in it", x.face(0, 0), 52);
        due("scars by a dentist in it", x.face(0, 1), 1);
        due("his own untouched", x.face(1, 0), 50);
        // What a girl makes less is told of a dentist's more, and the end is kept to 99 then.
        x = townOf("pg0;pk0;pk0;k10;k20;f099;m01;");
        due("a girl at 99", x.face(0, 0), 99);
    }

    private static void faceThen() {
        promise = 13;
        EachLendsHisFace x = townOf("pp0;pm0;l01;");
        due("fame now", x.faceThen(0, 0, 0), 50);
        due("fame behind 12", x.faceThen(0, 12, 0), 26);
        due("fame behind 13", x.faceThen(0, 13, 0), 27);
        due("fame behind 60", x.faceThen(1, 60, 0), 0);
        due("scars behind 60", x.faceThen(1, 60, 1), 48);
        due("lent behind 0", x.faceThen(0, 0, 2), 1);
        due("lent behind 11", x.faceThen(0, 11, 2), 12);
        due("lent behind 12", x.faceThen(0, 12, 2), 0);
        due("worn behind 11", x.faceThen(0, 11, 3), 1);
        due("nobody wears it", x.faceThen(1, 11, 3), -9);
        due("worn behind 12", x.faceThen(1, 12, 3), 1);
        due("nothing goes by", x.count(1), 0);
        due("nothing changed", x.face(0, 0), 50);
        due("-1", x.faceThen(2, -1, 4), -1);
        due("-4", x.faceThen(0, -1, 4), -4);
        due("-6", x.faceThen(0, 61, 4), -6);
        due("-2", x.faceThen(0, 60, 4), -2);
        due("-2 below", x.faceThen(0, 60, -1), -2);
        x = townOf("pm0;" + "m60;".repeat(16) + "m39;f099;");
        due("past 999", x.faceThen(0, 40, 0), 19);
    }

    private static void wornThen() {
        promise = 14;
        EachLendsHisFace x = townOf("pp0;pm0;l10;");
        due("wornThen(0, 0)", x.wornThen(0, 0), 1);
        due("wornThen(1, 11)", x.wornThen(1, 11), 9);
        due("wornThen(1, 12)", x.wornThen(1, 12), 1);
        due("wornThen(0, 60)", x.wornThen(0, 60), 0);
        due("-1", x.wornThen(2, -1), -1);
        due("-4", x.wornThen(0, -1), -4);
        due("-6", x.wornThen(0, 61), -6);
    }

    private static void first() {
        promise = 15;
        EachLendsHisFace x = townOf("pp0;pb9;pm0;f112;");
        due("which", x.first(0), 1);
        due("when", x.first(1), 4);
        due("home", x.first(2), 0);
        x.becomes(2, 0, 8);
        due("of several the least", x.first(0), 1);
        x.becomes(2, 0, 6);
        due("an earlier one", x.first(0), 2);
        due("when it is", x.first(1), 3);
        x.becomes(0, 0, 0);
        due("now", x.first(0), 0);
        due("behind 0", x.first(1), 0);
        x = townOf("pb3;f061;");
        due("not within 60", x.first(0), -9);
        due("never", x.first(1), -9);
        x.becomes(0, 0, 60);
        due("just within 60", x.first(1), 60);
        x = townOf("pp0;pp0;l01;m03;");
        due("home behind 9", x.first(2), 9);
        due("-2", x.first(3), -2);
        due("-2 below", x.first(-1), -2);
        due("home of nobody", new EachLendsHisFace().first(2), 0);
    }

    private static void meets() {
        promise = 16;
        EachLendsHisFace x = townOf("pp0;pp0;pp0;k01;k20;");
        due("known", x.meets(0, 1), 1);
        due("a stranger", x.meets(1, 0), 9);
        x.lends(0, 1);
        due("in another one's face, known", x.meets(2, 1), 0);
        due("in the face of the one who meets", x.meets(0, 1), 0);
        due("in a plain one", x.meets(2, 0), 9);
        due("one twice", x.meets(1, 1), -1);
        due("-1", x.meets(3, 0), -1);
        due("-1 the other", x.meets(0, 3), -1);
    }

    private static void deceived() {
        promise = 17;
        EachLendsHisFace x = townOf("pp0;pp0;pp0;pp0;k20;k30;k31;k10;");
        due("his own face: nobody", x.deceived(0, 0), 0);
        due("greeted", x.deceived(0, 1), 3);
        due("greeted by one", x.deceived(1, 1), 1);
        x.lends(0, 1);
        due("deceived, the lender too", x.deceived(1, 0), 3);
        due("greeted, he aside", x.deceived(1, 1), 3);
        due("plain: none is deceived", x.deceived(0, 0), 0);
        due("plain: none greets", x.deceived(0, 1), 0);
        due("-1", x.deceived(4, 2), -1);
        due("-2", x.deceived(0, 2), -2);
    }

    private static void famous() {
        promise = 18;
        EachLendsHisFace x = new EachLendsHisFace();
        due("nobody", x.famous(0), -9);
        due("nobody's scars", x.famous(1), -9);
        tell(x, "pp0;pp0;pp0;");
        due("of several the least", x.famous(0), 0);
        due("of several the least", x.famous(1), 0);
        x.becomes(0, 0, 49);
        due("famous", x.famous(0), 1);
        x.becomes(2, 1, 1);
        due("ugliest", x.famous(1), 2);
        x.becomes(0, 0, 0);
        x.becomes(1, 0, 0);
        x.becomes(2, 0, 0);
        due("without fame", x.famous(0), 0);
        due("-2", x.famous(2), -2);
        due("-2 below", x.famous(-1), -2);
    }

    private static void lend() {
        promise = 19;
        EachLendsHisFace x = townOf("pk0;pp0;pm0;pp0;pm0;");
        due("better", x.lend(0, 6, 0), 1);
        due("worst", x.lend(0, 6, 1), 2);
        due("behind 0 nothing is better", x.lend(0, 0, 0), -9);
        due("behind 0 nothing is worse", x.lend(0, 0, 1), -9);
        due("not better than himself", x.lend(1, 24, 0), -9);
        x.lends(1, 2);
        due("who wears his own alone", x.lend(0, 6, 0), 3);
        due("harm, too", x.lend(0, 6, 1), 4);
        due("-3 of a lender", x.lend(1, 6, 0), -3);
        due("-3 of one in another face", x.lend(2, 6, 0), -3);
        due("-1", x.lend(5, -1, 2), -1);
        due("-4", x.lend(1, -1, 2), -4);
        due("-6", x.lend(1, 25, 2), -6);
        due("-2", x.lend(1, 24, 2), -2);
        due("nothing is lent", x.count(2), 1);
    }

    private static void take() {
        promise = 20;
        EachLendsHisFace x = townOf("pk0;pp0;pm0;pm0;");
        due("a murderer's face rests, of several the least", x.take(2, 6), 0);
        due("a person's own grows", x.take(1, 6), -9);
        due("a keeper's is as it is", x.take(0, 6), -9);
        due("behind 0", x.take(2, 0), -9);
        x.lends(0, 3);
        due("who wears his own alone", x.take(2, 6), 1);
        due("-3", x.take(3, 6), -3);
        due("-3 of the lender", x.take(0, 6), -3);
        due("-1", x.take(4, -1), -1);
        due("-4", x.take(3, -1), -4);
        due("-6", x.take(3, 25), -6);
    }

    private static void keep() {
        promise = 21;
        EachLendsHisFace x = new EachLendsHisFace();
        due("nobody", x.keep(5), -9);
        tell(x, "pp0;pp0;pp0;pp0;l01;l23;");
        due("of several the least", x.keep(6), 0);
        due("behind 0", x.keep(0), -9);
        // A murderer in a keeper's face is as bad as in his own; of a person at home the face grows.
        x = townOf("pk0;pm0;pp0;pk0;l01;l23;");
        due("whose", x.keep(6), 2);
        x = townOf("pk0;pm0;l10;");
        due("better not", x.keep(6), -9);
        due("not come back in fact", x.face(1, 2), 1);
        due("-4", x.keep(-1), -4);
        due("-6", x.keep(25), -6);
        due("24", x.keep(24), -9);
    }

    private static void chained() {
        promise = 22;
        EachLendsHisFace x = townOf("pp0;pp0;pp0;pp0;pp0;l30;l12;");
        due("chained", x.chained(0), 2);
        due("the first in a plain one", townOf("pp0;pp0;l01;").chained(0), 1);
        due("the first in another one's", townOf("pp0;pp0;l10;").chained(0), 1);
        due("plain", x.chained(1), 8 + 2);
        due("seen", x.chained(2), 8 + 2 + 16);
        due("-2", x.chained(3), -2);
        due("-2 below", x.chained(-1), -2);
    }

    private static void lot() {
        promise = 23;
        EachLendsHisFace x = new EachLendsHisFace();
        due("nobody", x.lot(0), 0);
        due("nobody's worth", x.lot(1), 0);
        // Each murderer lends to the person of his pair, whose own face rests; the odd one stays as he is.
        tell(x, "pp0;pm0;pm0;pp0;pp0;");
        due("bits", x.lot(0), 1);
        due("worth", x.lot(1), 5 * 50 + 12 + 12 + 12);
        due("nothing is lent", x.count(2), 0);
        x.lends(0, 1);
        due("of those at home alone, and of several the least", x.lot(0), 0);
        due("-2", x.lot(2), FAR + 2);
        due("-2 below", x.lot(-1), FAR + 2);
        due("counted", x.count(12), 2);
        x = townOf("pm0;f000;");
        x.becomes(0, 1, 60);
        due("below 0", x.lot(1), -72);
        x = townOf("pp0;pp0;pm0;pk0;");
        due("of several the least", x.lot(0), 0);
        due("a keeper in a murderer's face", x.lot(1), 212);
        x = townOf("pp0;pm0;pk0;pm0;pd0;pb9;pp0;");
        due("the second of each pair lends", x.lot(0), 7);
        due("to the first of his own pair", x.lot(1), 350 + 12 + 0 + 12 + 12);
    }

    private static void fewest() {
        promise = 24;
        EachLendsHisFace x = townOf("pm0;pp0;pb9;pk0;");
        due("none is needed", x.fewest(0, 26, 0), 0);
        due("no lender then", x.fewest(0, 26, 1), -9);
        due("one", x.fewest(0, 27, 0), 1);
        due("his own lending comes first", x.fewest(0, 27, 1), 0);
        due("to a person", x.fewest(0, 62, 0), 1);
        due("not at all", x.fewest(0, 63, 0), -9);
        due("no lender of it", x.fewest(0, 63, 1), -9);
        // The first lending by lenders that brings face 2 to 50: the murderer's, to the beggar.
        due("another one's lending", x.fewest(2, 50, 1), 0);
        due("the beggar's own", x.fewest(2, 51, 1), 2);
        due("v 0", x.fewest(0, 0, 0), 0);
        x.turn(0, 0, 0);
        x.turn(1, 2, 0);
        due("to the least of the others", x.fewest(1, 62, 1), 1);
        due("-1", x.fewest(4, -1, 2), -1);
        due("-4", x.fewest(0, -1, 2), -4);
        due("-6", x.fewest(0, 100, 2), -6);
        due("-2", x.fewest(0, 99, 2), -2);
    }

    private static void who() {
        promise = 25;
        EachLendsHisFace x = townOf("pp0;pb3;pm0;pk0;pd0;pg0;pb2;k14;");
        due("no row: all", x.who(0), 127);
        rowOf(x, 50);
        due("behind 0 all", x.who(0), 127);
        rowOf(x, 49);
        due("behind 0 none", x.who(0), 0);
        rowOf(x, 50, 51);
        due("a person, a dentist", x.who(0), 1 + 16);
        due("two know it", x.who(4), 1);
        rowOf(x, 50, 49, 48);
        due("a beggar, a girl", x.who(0), 2 + 32);
        rowOf(x, 50, 50, 50, 50);
        due("a keeper, a beggar of 2", x.who(3), 8 + 64);
        due("a girl of two who know", x.who(4), 8 + 64 + 32);
        due("the row stays", x.count(6), 4);
        x.lends(2, 0);
        rowOf(x, 50, 48, 46, 44, 42, 40, 38, 36, 34, 32, 30, 28, 26, 24, 22, 20);
        due("from now on, it does not come back", x.who(0), 4);
        x.becomes(0, 0, 1);
        rowOf(x, 1, 0, 0, 0);
        due("at 0", x.who(0), 2 + 4 + 32);
        due("-1", x.who(7), -1);
        due("-1 below", x.who(-1), -1);
    }

    private static void widow() {
        promise = 26;
        EachLendsHisFace x = townOf("pp0;pp0;pp0;k01;");
        due("he is himself", x.widow(0, 1), -9);
        x.lends(1, 2);
        due("another one is in it", x.widow(0, 1), 2);
        due("she does not know it", x.widow(0, 2), -9);
        due("who has it on himself", x.widow(2, 1), -9);
        x.learns(2, 1);
        due("who has it on himself and knows it", x.widow(2, 1), -9);
        x.learns(0, 1);
        due("not known any more", x.widow(0, 1), -9);
        x.learns(0, 2);
        due("nobody wears it", x.widow(0, 2), -9);
        due("one twice", x.widow(0, 0), -1);
        due("-1", x.widow(3, 0), -1);
        due("-1 the other", x.widow(0, 3), -1);
    }

    private static void twins() {
        promise = 27;
        EachLendsHisFace x = townOf("pp0;pp0;pp0;pp0;f010;f110;f220;f320;");
        due("twos", x.twins(0), 2);
        due("the first", x.twins(1), 1);
        x.becomes(0, 1, 1);
        due("scars differ", x.twins(0), 1);
        due("the first is", x.twins(1), 23);
        x.becomes(2, 1, 1);
        due("none", x.twins(0), 0);
        due("no first", x.twins(1), -9);
        due("-2", x.twins(2), -2);
        due("-2 below", x.twins(-1), -2);
    }

    private static void two() {
        promise = 28;
        EachLendsHisFace x = townOf("pp2;pb7;pk0;pm0;pm0;pp0;");
        due("the first takes", x.two(1, 0, 6), 10);
        due("both would", x.two(0, 1, 6), 11);
        due("the second has it", x.two(0, 3, 6), 11);
        due("neither gains", x.two(0, 5, 6), 0);
        due("behind 0 nothing is more", x.two(0, 1, 0), 0);
        due("two murderers", x.two(3, 4, 6), 10);
        x.lends(0, 1);
        due("it can not be", x.two(0, 1, 24), 0);
        due("one is not at home", x.two(1, 2, 24), 0);
        due("nothing is done", x.count(2), 1);
        due("-1", x.two(6, 0, -1), -1);
        due("-1 the other", x.two(0, 6, -1), -1);
        due("one twice", x.two(0, 0, -1), -1);
        due("-4", x.two(0, 1, -1), -4);
        due("-6", x.two(0, 1, 25), -6);
    }

    private static void quarrel() {
        promise = 29;
        EachLendsHisFace x = townOf("pp0;pm0;");
        due("above", x.quarrel(0, 4, 3, 5, 0), 11);
        due("below", x.quarrel(0, 4, 3, 5, 1), 27);
        due("with a murderer", x.quarrel(1, 4, 3, 5, 0), 65);
        due("with a murderer, below", x.quarrel(1, 4, 3, 5, 1), 81);
        due("sure", x.quarrel(0, 7, 20, 0, 0), 1);
        due("sure, below", x.quarrel(0, 7, 20, 0, 1), 1);
        due("never", x.quarrel(0, 7, 20, 22, 0), 0);
        due("never, below", x.quarrel(0, 7, 20, 22, 1), 1);
        due("each time", x.quarrel(0, 7, 20, 21, 0), 1);
        due("each time, below", x.quarrel(0, 7, 20, 21, 1), 1280000000L);
        due("no month", x.quarrel(0, 0, 2, 1, 0), 0);
        x.becomes(0, 1, 98);
        due("99 at most", x.quarrel(0, 2, 2, 99, 0), 3);
        due("99 at most, below", x.quarrel(0, 2, 2, 99, 1), 4);
        due("-1", x.quarrel(2, -1, 1, -1, 2), FARTHEST + 1);
        due("-4 n", x.quarrel(0, -1, 21, 100, 2), FARTHEST + 4);
        due("-4 t", x.quarrel(0, 8, 1, 100, 2), FARTHEST + 4);
        due("-4 v", x.quarrel(0, 8, 21, -1, 2), FARTHEST + 4);
        due("-6 n", x.quarrel(0, 8, 20, 99, 2), FARTHEST + 6);
        due("-6 t", x.quarrel(0, 7, 21, 99, 2), FARTHEST + 6);
        due("-6 v", x.quarrel(0, 7, 20, 100, 2), FARTHEST + 6);
        due("-2", x.quarrel(0, 7, 20, 99, 2), FARTHEST + 2);
        due("-2 below", x.quarrel(0, 7, 20, 99, -1), FARTHEST + 2);
        due("counted", x.count(14) + x.count(16), 6);
    }

    private static void mean() {
        promise = 30;
        EachLendsHisFace x = new EachLendsHisFace();
        due("nobody", x.mean(0), 0);
        due("nobody, below", x.mean(1), 1);
        due("one alone", townOf("pp0;f051;").mean(0), 51);
        due("one alone, below", townOf("pp0;f051;").mean(1), 1);
        tell(x, "pp0;pp0;pp0;f051;");
        due("above", x.mean(0), 151);
        due("below", x.mean(1), 3);
        x.becomes(0, 0, 50);
        due("in least terms", x.mean(0), 50);
        due("in least terms, below", x.mean(1), 1);
        x.becomes(0, 0, 0);
        x.becomes(1, 0, 0);
        x.becomes(2, 0, 0);
        due("0", x.mean(0), 0);
        due("0 by 1", x.mean(1), 1);
        due("-2", x.mean(2), FARTHEST + 2);
        due("-2 below", x.mean(-1), FARTHEST + 2);
    }

    private static void whatIs() {
        promise = 31;
        EachLendsHisFace x = townOf("pp3;pm0;pb7;");
        due("no row: all kinds", x.whatIs(0, 0), 63);
        due("no row: all figures", x.whatIs(0, 1), 1023);
        rowOf(x, 50, 51);
        due("a person, a dentist", x.whatIs(0, 0), 1 + 16);
        due("any figure of a person", x.whatIs(0, 1), 1023);
        due("none of a beggar", x.whatIs(2, 1), 0);
        rowOf(x, 50, 49, 48);
        due("a beggar of 3, a girl", x.whatIs(0, 0), 2 + 32);
        due("a girl: the others have another figure", x.whatIs(1, 0), 32);
        due("figures of a beggar", x.whatIs(2, 1), 8 + 16 + 32);
        rowOf(x, 49);
        due("behind 0", x.whatIs(0, 0), 0);
        due("the row stays", x.count(6), 1);
        x.lends(0, 1);
        rowOf(x, 50, 48);
        due("a plain one", x.whatIs(0, 0), 0);
        due("a plain one's figures", x.whatIs(0, 1), 0);
        due("of the face he wears", x.whatIs(1, 0), 4);
        rowOf(x, 50, 48, 46, 44, 42, 40, 38, 36, 34, 32, 30, 28, 26, 27, 28);
        due("it comes back to a person", x.whatIs(1, 0), 4);
        due("he is still a murderer", x.person(1, 0), 2);
        x.clear();
        due("a plain one without a row", x.whatIs(0, 0), 0);
        due("-1", x.whatIs(3, 2), -1);
        due("-2", x.whatIs(0, 2), -2);
    }

    private static void row() {
        promise = 32;
        EachLendsHisFace x = new EachLendsHisFace();
        due("below", x.row(-1), -4);
        due("above", x.row(100), -6);
        for (int i = 1; i <= 16; i++) {
            due("row", x.row(i == 1 ? 0 : 99), i);
        }
        due("no room", x.row(5), -6);
        due("below, with no room", x.row(-5), -4);
        due("count(6)", x.count(6), 16);
    }

    private static void judge() {
        promise = 33;
        EachLendsHisFace x = townOf("pp0;pp0;pp0;");
        x.becomes(1, 1, 7);
        due("no row", x.judge(), -9);
        rowOf(x, 1, 1, 1);
        rowOf(x, 0, 7);
        due("all so that is told", x.judge(), -9);
        due("the row has none then", x.count(6), 0);
        rowOf(x, 1, 7);
        due("the first of all", x.judge(), 0);
        rowOf(x, 0, 6, 5);
        due("the first that is not so", x.judge(), 1);
        due("the row has none then, too", x.count(6), 0);
        rowOf(x, 0, 7, 0, 0);
        due("none there", x.judge(), 3);
    }

    private static void clear() {
        promise = 34;
        EachLendsHisFace x = new EachLendsHisFace();
        due("none", x.clear(), 0);
        x.row(1);
        x.row(2);
        due("two", x.clear(), 2);
        due("none then", x.count(6), 0);
        due("the next is the first", x.row(3), 1);
    }

    private static void lots() {
        promise = 35;
        EachLendsHisFace x = new EachLendsHisFace();
        due("-4", x.lots(0, 1, 2), FAR + 4);
        due("-6", x.lots(21, 1, 2), FAR + 6);
        due("-2", x.lots(20, 1, 2), FAR + 2);
        due("-3", x.lots(20, 1, 1), FAR + 3);
        tell(x, "pp2;pb7;pm4;pk0;pd8;pg1;");
        tell(x, "k01;k02;k12;k20;k34;k45;k54;k05;k25;");
        due("worths", x.lots(5, 7, 0), 1446);
        due("scars", x.lots(5, 7, 1), 36);
        due("nothing goes by", x.count(1) + x.count(2), 0);
        due("one town", x.lots(1, 7, 0), 300);
        x = townOf("pm0;");
        due("one alone", x.lots(20, Integer.MIN_VALUE, 0), 20 * (50 - 18));
        due("his scars", x.lots(20, Integer.MAX_VALUE, 1), 20 * 6);
    }

    private static void image() {
        promise = 36;
        EachLendsHisFace x = townOf("pp0;pp0;m07;");
        due("image()", x.image(), 7);
        x.months(3);
        due("a later one", x.image(), 10);
        x.months(3);
        due("on from the later", x.on(), 10);
        due("fame as then", x.face(0, 0), 60);
    }

    private static void on() {
        promise = 37;
        EachLendsHisFace x = townOf("pp3;pm0;k01;l01;m02;");
        due("none", x.on(), -3);
        x.image();
        x.row(5);
        x.letter('p');
        tell(x, "x");
        x.turn(0, 3, 9);
        x.learns(0, 1);
        x.becomes(0, 1, 77);
        x.months(20);
        x.row(6);
        x.letter('m');
        tell(x, "");
        tell(x, "pp0;");
        x.letter('q');
        due("on()", x.on(), 2);
        due("people", x.count(0), 2);
        due("kind", x.person(0, 0), 0);
        due("figure", x.person(0, 1), 3);
        due("knows", x.person(0, 2), 3);
        due("wears", x.person(1, 3), 0);
        due("fame", x.face(0, 0), 46);
        due("scars", x.face(0, 1), 2);
        due("lent", x.face(0, 2), 3);
        due("the row is as it was", x.count(6), 2);
        due("letters are as they were", x.count(7), 1);
        due("refusals are as they were", x.count(13), 1);
        x.months(5);
        due("on again", x.on(), 2);
        due("as then", x.face(0, 0), 46);
    }

    private static void count() {
        promise = 38;
        EachLendsHisFace x = townOf("pp0;pm0;pp0;l01;m02;");
        x.row(1);
        x.letter(1);
        x.letter(2);
        int[] counts = {3, 2, 1, 46 + 50 + 52, 2, 1, 1, 2};
        for (int what = 0; what < counts.length; what++) {
            due("count(" + what + ")", x.count(what), counts[what]);
        }
        x.person(9, 0);
        x.worth(9);
        x.quarrel(9, 0, 2, 0, 0);
        x.first(3);
        x.mean(3);
        x.back(2);
        x.months(0);
        x.row(-1);
        x.months(61);
        int[] refusals = {3, 2, 1, 2, 0, 1};
        for (int i = 0; i < refusals.length; i++) {
            due("count(" + (11 + i) + ")", x.count(11 + i), refusals[i]);
        }
        int[] others = {-1, 8, 9, 10, 17, Integer.MIN_VALUE, Integer.MAX_VALUE};
        for (int other : others) {
            due("count(" + other + ")", x.count(other), -9);
        }
        due("those are not counted", x.count(12), 2);
    }
}
