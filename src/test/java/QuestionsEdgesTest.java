import java.util.List;

/** The boundary cases of what is asked of a town ("Terms" II., promises 13 to 38). */
public final class QuestionsEdgesTest {
    private static final String EIGHT = "pk0;".repeat(8);

    private record Question(String name, Edges.Call call) {
    }

    /** In the town of thought(), where the third has lent to the second. */
    private static final List<Question> ABOUT_NOW = List.of(
        asks("deceived(1, 0)", x -> x.deceived(1, 0)), asks("deceived(4, 1)", x -> x.deceived(4, 1)),
        asks("famous(0)", x -> x.famous(0)), asks("famous(1)", x -> x.famous(1)), asks("chained(0)", x -> x.chained(0)),
        asks("chained(1)", x -> x.chained(1)), asks("chained(2)", x -> x.chained(2)), asks("meets(2, 1)", x -> x.meets(2, 1)),
        asks("widow(0, 2)", x -> x.widow(0, 2)), asks("twins(0)", x -> x.twins(0)), asks("twins(1)", x -> x.twins(1)),
        asks("mean(0)", x -> x.mean(0)), asks("who(2)", x -> x.who(2)), asks("whatIs(2, 0)", x -> x.whatIs(2, 0)),
        asks("whatIs(1, 0)", x -> x.whatIs(1, 0)), asks("lend(1, 5, 0)", x -> x.lend(1, 5, 0)),
        asks("take(2, 5)", x -> x.take(2, 5)), asks("fewest(3, 55, 1)", x -> x.fewest(3, 55, 1)),
        asks("worth(2)", x -> x.worth(2)), asks("lot(0)", x -> x.lot(0)));

    public static void main(String[] args) {
        thought();
        first();
        meets();
        famous();
        lend();
        harm();
        take();
        keep();
        chained();
        lot();
        fewest();
        who();
        widow();
        twins();
        two();
        quarrel();
        mean();
        whatIs();
        row();
        lots();
        image();
        count();
        Edges.end();
    }

    private static void due(String call, long got, long want) {
        Edges.due(call, got, want);
    }

    private static void edge(String words, String what, Runnable test) {
        Edges.edge(words, what, test);
    }

    private static EachLendsHisFace townOf(String letters) {
        return Edges.townOf(letters);
    }

    private static EachLendsHisFace withRow(String letters, int... numbers) {
        return Edges.withRow(townOf(letters), numbers);
    }

    private static void changesNothing(String letters, Question question) {
        edge("In mind, n MONTHS on (0 .. 60)", question.name() + " changes nothing", () -> {
            EachLendsHisFace x = townOf(letters);
            x.row(50);
            x.letter('p');
            String state = Edges.stateOf(x);
            long once = question.call().of(x);
            Edges.same("state", Edges.stateOf(x), state);
            due("asked again", question.call().of(x), once);
        });
    }

    /** What was thought before is in no later answer: each question about now is asked right behind it. */
    private static void leavesNoTrace(String letters, Question thought) {
        edge("In mind, n MONTHS on (0 .. 60)", "behind " + thought.name() + " now is now", () -> {
            EachLendsHisFace fresh = withRow(letters, 50, 48);
            EachLendsHisFace x = withRow(letters, 50, 48);
            for (Question question : ABOUT_NOW) {
                thought.call().of(x);
                due(question.name(), question.call().of(x), question.call().of(fresh));
            }
        });
    }

    /** Behind on() a question is answered as at the image, though more had come and more was known since. */
    private static void asThen(String letters, Question question, String when) {
        edge("ON from it all is as then.", question.name() + " " + when, () -> {
            EachLendsHisFace fresh = withRow(letters, 50, 48);
            for (String since : new String[] {"pp0;pm9;k01;k62;m13;l67;", "pk0;pk0;"}) {
                EachLendsHisFace x = townOf(letters);
                x.image();
                Edges.tell(x, since);
                x.on();
                Edges.withRow(x, 50, 48);
                due(question.name(), question.call().of(x), question.call().of(fresh));
            }
        });
    }

    private static void passes999(String letters, Question question) {
        edge("(In thought MONTH may pass 999.)", question.name(), () -> {
            EachLendsHisFace young = withRow(letters, 50, 48);
            EachLendsHisFace old = Edges.agedTownOf("", 999);
            Edges.tell(old, letters);
            Edges.withRow(old, 50, 48);
            due(question.name(), question.call().of(old), question.call().of(young));
            due("the month is as it was", old.count(1), 999);
            due("people are there", old.count(0), young.count(0));
        });
    }

    private static void thought() {
        String town = "pp2;pb7;pm4;pk0;pd8;pg1;k04;k15;k02;l21;";
        List<Question> questions = List.of(
            asks("faceThen(2, 60, 0)", x -> x.faceThen(2, 60, 0)), asks("wornThen(1, 60)", x -> x.wornThen(1, 60)),
            asks("first(0)", x -> x.first(0)), asks("first(1)", x -> x.first(1)), asks("first(2)", x -> x.first(2)),
            asks("lend(0, 24, 1)", x -> x.lend(0, 24, 1)), asks("take(0, 24)", x -> x.take(0, 24)),
            asks("keep(24)", x -> x.keep(24)), asks("lot(0)", x -> x.lot(0)), asks("lot(1)", x -> x.lot(1)),
            asks("fewest(0, 62, 0)", x -> x.fewest(0, 62, 0)), asks("two(0, 3, 24)", x -> x.two(0, 3, 24)),
            asks("quarrel(2, 7, 2, 20, 0)", x -> x.quarrel(2, 7, 2, 20, 0)), asks("who(2)", x -> x.who(2)),
            asks("whatIs(1, 0)", x -> x.whatIs(1, 0)), asks("lots(3, 5, 0)", x -> x.lots(3, 5, 0)));
        for (Question question : questions) {
            passes999(town, question);
            changesNothing(town, question);
            leavesNoTrace(town, question);
            asThen(town, question, "in thought");
        }
        for (Question question : ABOUT_NOW) {
            asThen(town, question, "now");
        }
        String mind = "In mind, n MONTHS on (0 .. 60): FAME of a FACE, SCARS, LENT; who WEARS a FACE (-9 nobody)";
        edge(mind, "0 months: as it is", () -> {
            EachLendsHisFace x = townOf("pk0;pm0;l01;m05;");
            for (int face = 0; face < 2; face++) {
                for (int what = 0; what < 4; what++) {
                    due("faceThen(" + face + ", 0, " + what + ")", x.faceThen(face, 0, what), x.face(face, what));
                }
            }
        });
        edge(mind, "60 months: as they go by", () -> {
            EachLendsHisFace x = townOf("pd7;pm0;pb3;l10;");
            EachLendsHisFace y = townOf("pd7;pm0;pb3;l10;m60;");
            for (int face = 0; face < 3; face++) {
                for (int what = 0; what < 4; what++) {
                    due("faceThen(" + face + ", 60, " + what + ")", x.faceThen(face, 60, what), y.face(face, what));
                }
            }
            due("fame of the murderer's", x.faceThen(1, 60, 0), 0);
            due("its scars, of 12 months by the dentist, too", x.faceThen(1, 60, 1), 60);
        });
        edge(mind, "lent 12, and come back", () -> {
            EachLendsHisFace x = townOf("pk0;pk0;l01;");
            due("behind 11", x.faceThen(0, 11, 2), 12);
            due("behind 12", x.faceThen(0, 12, 2), 0);
        });
        edge(mind, "-9 nobody", () -> {
            EachLendsHisFace x = townOf("pk0;pk0;l01;");
            due("now", x.faceThen(1, 0, 3), -9);
            due("behind 11", x.faceThen(1, 11, 3), -9);
            due("behind 12", x.faceThen(1, 12, 3), 1);
            due("the lent one", x.faceThen(0, 11, 3), 1);
            due("the lent one behind 12", x.faceThen(0, 12, 3), 0);
        });
        edge("which FACE one WEARS (9)", "a plain one till it comes back", () -> {
            EachLendsHisFace x = townOf("pk0;pk0;l01;");
            due("now", x.wornThen(0, 0), 9);
            due("behind 11", x.wornThen(0, 11), 9);
            due("behind 12", x.wornThen(0, 12), 0);
            due("the other behind 11", x.wornThen(1, 11), 0);
            due("the other behind 12", x.wornThen(1, 12), 1);
            due("behind 60", x.wornThen(1, 60), 1);
        });
        edge("WORTH of a FACE: FAME less SCARS (may be below 0)", "from 99 to -99", () -> {
            EachLendsHisFace x = townOf("pk0;f099;");
            due("most", x.worth(0), 99);
            x.becomes(0, 1, 99);
            due("none", x.worth(0), 0);
            x.becomes(0, 0, 98);
            due("below 0", x.worth(0), -1);
            x.becomes(0, 0, 0);
            due("least", x.worth(0), -99);
        });
    }

    private static Question asks(String name, Edges.Call call) {
        return new Question(name, call);
    }

    private static void first() {
        String words = "FIRST: the FACE first at FAME 0 within 60 MONTHS, of several the least; -9; when";
        edge(words, "at 60, not at 61", () -> {
            EachLendsHisFace x = townOf("pb3;f060;");
            due("which at 60", x.first(0), 0);
            due("when at 60", x.first(1), 60);
            x.becomes(0, 0, 61);
            due("which at 61", x.first(0), -9);
            due("when at 61", x.first(1), -9);
        });
        edge(words, "now", () -> {
            EachLendsHisFace x = townOf("pm0;pp0;f002;f100;");
            due("which", x.first(0), 1);
            due("when", x.first(1), 0);
        });
        edge(words, "of several the least", () -> {
            EachLendsHisFace x = townOf("pk0;pm0;pb9;f104;f206;");
            due("which", x.first(0), 1);
            due("when", x.first(1), 2);
        });
        edge(words, "the first, not the least", () -> {
            EachLendsHisFace x = townOf("pk0;pm0;pb9;f104;f203;");
            due("which", x.first(0), 2);
            due("when", x.first(1), 1);
        });
        edge(words, "the last of eight", () -> {
            EachLendsHisFace x = townOf(EIGHT + "f700;");
            due("which", x.first(0), 7);
            due("when", x.first(1), 0);
        });
        edge(words, "nobody, never", () -> {
            due("nobody", new EachLendsHisFace().first(0), -9);
            due("nobody, when", new EachLendsHisFace().first(1), -9);
            due("never", townOf("pk0;f001;").first(0), -9);
            due("never, when", townOf("pk0;f001;").first(1), -9);
        });
        edge(words, "by him who wears it then", () -> {
            // Twelve months in a murderer's hands bring it to 1, and its owner lets it be.
            EachLendsHisFace x = townOf("pk0;pm0;f025;f199;l01;");
            due("when", x.first(1), -9);
            x.becomes(0, 0, 24);
            due("which", x.first(0), 0);
            due("when", x.first(1), 12);
        });
        String home = "HOME: behind how many MONTHS (0 .. 60) all WEAR their own first; -9";
        edge(home, "all are at home", () -> {
            due("nobody", new EachLendsHisFace().first(2), 0);
            due("eight", townOf(EIGHT).first(2), 0);
        });
        edge(home, "from 12 to 1", () -> {
            EachLendsHisFace x = townOf("pk0;pk0;l10;");
            for (int n = 12; n >= 0; n--) {
                due("first(2)", x.first(2), n);
                x.months(1);
            }
        });
        edge(home, "all, the last of them, too", () -> {
            EachLendsHisFace x = townOf(EIGHT + "l01;m05;l76;");
            due("first(2)", x.first(2), 12);
        });
    }

    private static void meets() {
        String words = "(the number of the FACE that one WEARS, if he KNOWS it; 9 a stranger; PLAIN ones are strangers)";
        edge(words, "known and not", () -> {
            EachLendsHisFace x = townOf("pk0;pk0;k01;");
            due("known", x.meets(0, 1), 1);
            due("not known", x.meets(1, 0), 9);
        });
        edge(words, "in another one's face it is that one", () -> {
            EachLendsHisFace x = townOf("pk0;pk0;pk0;k20;k21;l01;");
            due("he knows it", x.meets(2, 1), 0);
            due("he knows his own face", x.meets(0, 1), 0);
            x.learns(2, 0);
            due("he knows the one below it alone", x.meets(2, 1), 9);
        });
        edge(words, "plain ones are strangers", () -> {
            EachLendsHisFace x = townOf("pk0;pk0;pk0;k20;k10;l01;");
            due("to one who knows him", x.meets(2, 0), 9);
            due("to him who has his face", x.meets(1, 0), 9);
        });
        edge(words, "the last of eight", () -> {
            EachLendsHisFace x = townOf(EIGHT + "k07;k70;");
            due("the last", x.meets(0, 7), 7);
            due("the first", x.meets(7, 0), 0);
        });
        String deceived = "DECEIVED: how many take one for somebody he is not.";
        edge(deceived, "in his own face nobody", () ->
            due("deceived", townOf("pk0;pk0;pk0;k10;k20;").deceived(0, 0), 0));
        edge(deceived, "in a plain one nobody", () ->
            due("deceived", townOf("pk0;pk0;pk0;k10;k20;l01;").deceived(0, 0), 0));
        edge(deceived, "in another one's all who know that one", () -> {
            EachLendsHisFace x = townOf("pk0;pk0;pk0;pk0;k20;k21;k31;l01;");
            due("the lender and another", x.deceived(1, 0), 2);
            x.learns(0, 0);
            due("a lender who does not know it", x.deceived(1, 0), 1);
            x.learns(1, 0);
            due("he himself is not counted", x.deceived(1, 0), 1);
            x.learns(2, 0);
            due("none", x.deceived(1, 0), 0);
        });
        edge(deceived, "seven of eight", () ->
            due("deceived", townOf(EIGHT + "k10;k20;k30;k40;k50;k60;k70;l07;").deceived(7, 0), 7));
        String greeted = "GREETED: how many KNOW the FACE one WEARS (9: 0; he aside).";
        edge(greeted, "9: 0", () -> due("greeted", townOf("pk0;pk0;pk0;k10;k20;l01;").deceived(0, 1), 0));
        edge(greeted, "he aside", () -> {
            EachLendsHisFace x = townOf("pk0;pk0;");
            due("his own is known to him", x.deceived(0, 1), 0);
            x.learns(1, 0);
            due("one more", x.deceived(0, 1), 1);
            x.learns(0, 0);
            due("not known to himself", x.deceived(0, 1), 1);
        });
        edge(greeted, "of another one's face, he aside", () -> {
            EachLendsHisFace x = townOf("pk0;pk0;k10;l01;");
            due("the lender", x.deceived(1, 1), 1);
            x.learns(0, 0);
            due("nobody", x.deceived(1, 1), 0);
        });
        edge(greeted, "seven of eight", () ->
            due("greeted", townOf(EIGHT + "k10;k20;k30;k40;k50;k60;k70;").deceived(0, 1), 7));
    }

    private static void famous() {
        String words = "FAMOUS: the FACE of most FAME, of several the least; -9";
        edge(words, "nobody", () -> due("famous(0)", new EachLendsHisFace().famous(0), -9));
        edge(words, "of several the least", () -> {
            due("all alike", townOf("pk0;pk0;pk0;").famous(0), 0);
            due("two alike", townOf("pk0;pk0;pk0;f049;").famous(0), 1);
        });
        edge(words, "one more is most", () -> {
            due("the last", townOf("pk0;pk0;pk0;f251;").famous(0), 2);
            due("the first", townOf("pk0;pk0;pk0;f051;").famous(0), 0);
            due("each less than the one before", townOf("pk0;pk0;pk0;f149;f248;").famous(0), 0);
        });
        edge(words, "all at 0, all at 99", () -> {
            due("0", townOf("pk0;pk0;f000;f100;").famous(0), 0);
            due("99", townOf("pk0;pk0;f099;f199;").famous(0), 0);
        });
        edge(words, "the last of eight", () -> due("famous(0)", townOf(EIGHT + "f751;").famous(0), 7));
        String ugliest = "UGLIEST: of most SCARS, likewise.";
        edge(ugliest, "nobody", () -> due("famous(1)", new EachLendsHisFace().famous(1), -9));
        edge(ugliest, "all without scars: the least", () -> due("famous(1)", townOf("pk0;pk0;").famous(1), 0));
        edge(ugliest, "of several the least", () -> {
            EachLendsHisFace x = townOf("pk0;pk0;pk0;");
            x.becomes(1, 1, 1);
            x.becomes(2, 1, 1);
            due("two alike", x.famous(1), 1);
            x.becomes(2, 1, 2);
            due("one more is most", x.famous(1), 2);
        });
        edge(ugliest, "the last of eight", () -> {
            EachLendsHisFace x = townOf(EIGHT);
            x.becomes(7, 1, 99);
            due("famous(1)", x.famous(1), 7);
        });
    }

    private static void lend() {
        String words = "so that WORTH of his FACE is most behind n MONTHS (0 .. 24), more than if not, of several the least; -9.";
        edge(words, "0 months: nothing is more", () -> due("lend", townOf("pm0;pp0;").lend(0, 0, 0), -9));
        edge(words, "1 month", () -> due("lend", townOf("pm0;pp0;").lend(0, 1, 0), 1));
        edge(words, "24 months", () -> {
            // Behind 12 months it is at home again: 12 more by the person, then less by the murderer himself.
            due("lend", townOf("pm0;pp0;").lend(0, 24, 0), 1);
        });
        edge(words, "as much as if not is not more", () -> {
            due("keepers", townOf("pk0;pk0;").lend(0, 24, 0), -9);
            due("less", townOf("pk0;pm0;").lend(0, 24, 0), -9);
            due("one more", townOf("pk0;pp0;").lend(0, 1, 0), 1);
        });
        edge(words, "of several the least", () -> due("lend", townOf("pk0;pm0;pp0;pp5;").lend(0, 6, 0), 2));
        edge(words, "the most, not the least", () -> due("lend", townOf("pm0;pk0;pp0;").lend(0, 6, 0), 2));
        edge(words, "worth, not fame: scars count", () -> {
            // Both dentists make as much fame; the first makes as many scars.
            due("lend", townOf("pk0;pd6;pd5;").lend(0, 6, 0), 2);
        });
        edge(words, "alone", () -> due("lend", townOf("pm0;").lend(0, 24, 0), -9));
        edge(words, "only to those who wear their own", () -> {
            due("to none", townOf("pm0;pp0;pp0;l12;").lend(0, 6, 0), -9);
            due("to the last", townOf("pm0;pp0;pp0;pp0;l12;").lend(0, 6, 0), 3);
        });
        edge(words, "fame that is 99 already", () -> {
            due("99", townOf("pk0;pp0;f099;").lend(0, 6, 0), -9);
            due("98", townOf("pk0;pp0;f098;").lend(0, 6, 0), 1);
        });
        edge(words, "of the last of eight to the first", () ->
            due("lend", townOf("pp0;" + "pk0;".repeat(7)).lend(7, 6, 0), 0));
    }

    private static void harm() {
        String words = "HARM: to whom it were worst, less than if not, likewise; -9.";
        edge(words, "0 months: nothing is less", () -> due("harm", townOf("pp0;pm0;").lend(0, 0, 1), -9));
        edge(words, "1 month, 24 months", () -> {
            due("1", townOf("pp0;pm0;").lend(0, 1, 1), 1);
            due("24", townOf("pp0;pm0;").lend(0, 24, 1), 1);
        });
        edge(words, "as much as if not is not less", () -> {
            due("keepers", townOf("pk0;pk0;").lend(0, 24, 1), -9);
            due("more", townOf("pk0;pp0;").lend(0, 24, 1), -9);
        });
        edge(words, "of several the least", () -> due("harm", townOf("pk0;pp0;pm0;pm9;").lend(0, 6, 1), 2));
        edge(words, "the worst, not the least", () -> due("harm", townOf("pk0;pb3;pm0;").lend(0, 6, 1), 2));
        edge(words, "worth, not fame: scars count", () -> {
            // The beggar takes 3 of fame in a month, the murderer 2, and 1 more by scars: the beggar is no worse.
            due("alike", townOf("pk0;pb9;pm0;").lend(0, 6, 1), 1);
            due("fame at 0 already", townOf("pk0;pb9;pm0;f000;").lend(0, 6, 1), 2);
        });
        edge(words, "alone", () -> due("harm", townOf("pp0;").lend(0, 24, 1), -9));
    }

    private static void take() {
        String words = "so that WORTH of his own is most behind n MONTHS, more than if not, likewise; -9.";
        edge(words, "0 months: nothing is more", () -> due("take", townOf("pm0;pk0;").take(0, 0), -9));
        edge(words, "1 month, 24 months", () -> {
            due("1", townOf("pm0;pk0;").take(0, 1), 1);
            due("24", townOf("pm0;pk0;").take(0, 24), 1);
        });
        edge(words, "as much as if not is not more", () -> {
            due("a keeper's is as it is", townOf("pk0;pm0;").take(0, 24), -9);
            due("a person's own grows", townOf("pp0;pk0;").take(0, 24), -9);
            due("a beggar of 2 takes nothing off", townOf("pb2;pk0;").take(0, 24), -9);
            due("a beggar of 3 does", townOf("pb3;pk0;").take(0, 24), 1);
        });
        edge(words, "of several the least", () -> due("take", townOf("pk0;pp0;pm0;").take(2, 6), 0));
        edge(words, "alone", () -> due("take", townOf("pm0;").take(0, 24), -9));
        edge(words, "only of those who wear their own", () -> {
            due("of none", townOf("pm0;pp0;pp0;l12;").take(0, 6), -9);
            due("of the last", townOf("pm0;pp0;pp0;pp0;l12;").take(0, 6), 3);
        });
    }

    private static void keep() {
        String words = "so that all WORTHS together are most behind n MONTHS (0 .. 24), more than if not, of several the least; -9.";
        edge(words, "nobody, none lent", () -> {
            due("nobody", new EachLendsHisFace().keep(24), -9);
            due("none lent", townOf("pm0;pp0;").keep(24), -9);
        });
        edge(words, "0 months: nothing is more", () -> due("keep", townOf("pp0;pp0;l01;").keep(0), -9));
        edge(words, "1 month, 24 months", () -> {
            due("1", townOf("pp0;pp0;l01;").keep(1), 0);
            due("24", townOf("pp0;pp0;l01;").keep(24), 0);
        });
        edge(words, "as much as if not is not more", () -> {
            due("keepers", townOf("pk0;pk0;l01;").keep(24), -9);
            due("less", townOf("pk0;pm0;l10;").keep(6), -9);
        });
        edge(words, "of several the least", () -> due("keep", townOf("pp0;pp0;pp0;pp0;l32;l10;").keep(6), 1));
        edge(words, "the most, not the least", () -> {
            // At home two persons have 1 more in a month than so, two dentists who know one another 2 more.
            due("keep", townOf("pp0;pp0;pd0;pd0;k23;k32;l01;l23;").keep(6), 2);
        });
        edge(words, "all together, the face that rests, too", () -> {
            // The lent face is better with the dentist; but his own rests, and has 2 more in a month at home.
            due("keep", townOf("pk0;pd0;k01;l01;").keep(6), 0);
        });
        edge(words, "the last of eight", () -> due("keep", townOf("pk0;".repeat(6) + "pp0;pp0;l76;").keep(6), 7));
    }

    private static void chained() {
        edge("CHAINED: how many WEAR the FACE of somebody else", "none, and four of eight", () -> {
            due("nobody", new EachLendsHisFace().chained(0), 0);
            due("all at home", townOf(EIGHT).chained(0), 0);
            due("four", townOf(EIGHT + "l01;l32;l45;l76;").chained(0), 4);
            due("the first, in another one's", townOf(EIGHT + "l70;").chained(0), 1);
            due("the last, in another one's", townOf(EIGHT + "l07;").chained(0), 1);
        });
        edge("PLAIN: who WEAR PLAIN ones (bits)", "none, and four of eight", () -> {
            due("nobody", new EachLendsHisFace().chained(1), 0);
            due("all at home", townOf(EIGHT).chained(1), 0);
            due("four", townOf(EIGHT + "l01;l32;l45;l76;").chained(1), 1 + 8 + 16 + 128);
        });
        edge("SEEN: FACES (bits) that somebody WEARS.", "none, all, four of eight", () -> {
            due("nobody", new EachLendsHisFace().chained(2), 0);
            due("all at home", townOf(EIGHT).chained(2), 255);
            due("four", townOf(EIGHT + "l01;l32;l45;l76;").chained(2), 1 + 8 + 16 + 128);
            due("one in a plain one is not face 9", townOf("pk0;pk0;l10;").chained(2), 2);
        });
    }

    private static void lot() {
        String words = "(the first with the second, ..), who LENDS in each pair (the first 0, the second 1)";
        edge(words, "nobody", () -> {
            due("bits", new EachLendsHisFace().lot(0), 0);
            due("worth", new EachLendsHisFace().lot(1), 0);
        });
        edge(words, "one alone is in no pair", () -> {
            due("bits", townOf("pm0;").lot(0), 0);
            due("worth", townOf("pm0;").lot(1), 50 - 24 - 12);
        });
        edge(words, "none at home", () -> {
            due("bits", townOf("pk0;pm0;l01;").lot(0), 0);
            // The face is with the murderer for 12 months, and the month behind is not looked at.
            due("worth", townOf("pk0;pm0;l01;").lot(1), 50 - 24 - 12 + 50);
        });
        edge(words, "the first lends", () -> {
            // A person in a murderer's face makes it more, and his own rests.
            due("bits", townOf("pm0;pp0;").lot(0), 0);
            due("worth", townOf("pm0;pp0;").lot(1), 62 + 50);
        });
        edge(words, "the second lends", () -> {
            due("bits", townOf("pp0;pm0;").lot(0), 1);
            due("worth", townOf("pp0;pm0;").lot(1), 62 + 50);
        });
        edge(words, "in each pair, even if it were better not", () ->
            due("worth", townOf("pp0;pp0;").lot(1), 62 + 50));
        edge(words, "four pairs", () -> {
            due("all the second", townOf("pp0;pm0;".repeat(4)).lot(0), 15);
            due("the last alone", townOf("pm0;pp0;".repeat(3) + "pp0;pm0;").lot(0), 8);
            due("worth", townOf("pm0;pp0;".repeat(3) + "pp0;pm0;").lot(1), 4 * 112);
        });
        edge(words, "three of seven are pairs", () -> {
            due("bits", townOf("pp0;pm0;".repeat(3) + "pm0;").lot(0), 7);
            due("worth", townOf("pp0;pm0;".repeat(3) + "pm0;").lot(1), 3 * 112 + 14);
        });
        edge("of all who WEAR their own, paired two by two in order of numbers", "the others are left out", () -> {
            // 1 and 2 are out: 0 is paired with 3, 4 with 5.
            EachLendsHisFace x = townOf("pp0;pk0;pk0;pm0;pm0;pp0;l12;");
            due("bits", x.lot(0), 1);
            due("worth", x.lot(1), 100 + 112 + 112);
        });
        edge("so that all WORTHS are most behind 12 MONTHS: as bits by pairs, of several the least; that WORTH.",
            "of several the least", () -> due("bits", townOf("pk0;pk0;pp0;pm0;pk0;pk0;").lot(0), 2));
        edge("so that all WORTHS are most behind 12 MONTHS: as bits by pairs, of several the least; that WORTH.",
            "worth below 0", () -> {
                EachLendsHisFace x = townOf("pm0;f000;");
                x.becomes(0, 1, 99);
                due("worth", x.lot(1), -99);
                due("bits", x.lot(0), 0);
                Edges.tell(x, "pm0;f100;");
                x.becomes(1, 1, 80);
                due("of two", x.lot(1), -99 - 80);
            });
        edge("so that all WORTHS are most behind 12 MONTHS: as bits by pairs, of several the least; that WORTH.",
            "12 months", () -> due("the lent face is at home then, not a month longer", townOf("pd0;pp0;").lot(1), 112));
    }

    private static void fewest() {
        String words = "with which FAME of a FACE is v (0 .. 99) or more behind 12 MONTHS; -9";
        edge(words, "v itself, and one more", () -> {
            due("as it is", townOf("pp0;").fewest(0, 62, 0), 0);
            due("one more", townOf("pp0;").fewest(0, 63, 0), -9);
            due("by a lending", townOf("pk0;pp0;").fewest(0, 62, 0), 1);
            due("one more by none", townOf("pk0;pp0;").fewest(0, 63, 0), -9);
        });
        edge(words, "v 0 and v 99", () -> {
            due("0", townOf("pm0;f000;").fewest(0, 0, 0), 0);
            due("99 as it is", townOf("pp0;f087;").fewest(0, 99, 0), 0);
            due("99 not", townOf("pp0;f086;").fewest(0, 99, 0), -9);
            due("99 by a lending", townOf("pk0;pp0;f087;").fewest(0, 99, 0), 1);
        });
        edge(words, "12 months, not 11, not 13", () -> {
            due("12 less", townOf("pb3;").fewest(0, 38, 0), 0);
            due("not 11", townOf("pb3;").fewest(0, 39, 0), -9);
        });
        edge(words, "a face that is lent now", () -> {
            EachLendsHisFace x = townOf("pp0;pm0;l01;m06;");
            due("6 months with him, 6 at home", x.fewest(0, 50 - 24 + 6, 0), 0);
            due("no more than that", x.fewest(0, 50 - 24 + 7, 0), -9);
        });
        String count = "FEWEST: the fewest LENDINGS (0 .. 2)";
        edge(count, "none is needed", () -> due("fewest", townOf("pk0;pp0;").fewest(0, 50, 0), 0));
        edge(count, "one is needed", () -> due("fewest", townOf("pk0;pp0;").fewest(0, 51, 0), 1));
        edge(count, "two bring no more than one", () ->
            due("fewest", townOf("pm0;pp0;pp0;pd0;").fewest(0, 63, 0), -9));
        edge(count, "a lending that rests the face", () -> {
            due("how many", townOf("pm0;pk0;").fewest(0, 50, 0), 1);
            due("of nobody at home", townOf("pm0;pk0;pk0;l12;").fewest(0, 50, 0), -9);
        });
        String lender = "the lender of the first such (by lenders, then the others); -9 (0, too)";
        edge(lender, "0, too", () -> due("lender", townOf("pk0;pp0;").fewest(0, 50, 1), -9));
        edge(lender, "none", () -> due("lender", townOf("pk0;pp0;").fewest(0, 99, 1), -9));
        edge(lender, "the owner himself", () -> due("lender", townOf("pp0;pk0;").fewest(1, 51, 1), 1));
        edge(lender, "by lenders: the least who lends to the owner", () -> {
            due("0 lends to 2", townOf("pk0;pk0;pm0;").fewest(2, 50, 1), 0);
            due("0 is not at home", townOf("pk0;pk0;pm0;pk0;l01;").fewest(2, 50, 1), 2);
            due("the owner comes ahead of 3", townOf("pm0;pk0;pk0;pk0;").fewest(0, 50, 1), 0);
        });
        edge(lender, "the last of eight", () ->
            due("lender", townOf("pp0;" + "pk0;".repeat(7)).fewest(7, 51, 1), 7));
        edge(lender, "none of eight", () -> due("lender", townOf(EIGHT).fewest(7, 51, 1), -9));
    }

    private static void who() {
        String words = "by whom of PEOPLE (bits) it would be so, did he WEAR it from now on, MONTH by MONTH, and nobody else";
        edge(words, "a row of none: all", () -> {
            due("three", townOf("pk0;pm0;pp0;").who(1), 7);
            due("eight", townOf(EIGHT).who(7), 255);
        });
        edge(words, "behind 0 months it is as it is now", () -> {
            due("so", withRow("pk0;pm0;pp0;", 50).who(1), 7);
            due("not so", withRow("pk0;pm0;pp0;", 51).who(1), 0);
        });
        edge(words, "behind 1 month", () -> {
            due("a person", withRow("pk0;pm0;pp0;", 50, 51).who(1), 4);
            due("a murderer", withRow("pk0;pm0;pp0;", 50, 48).who(0), 2);
            due("a keeper", withRow("pk0;pm0;pp0;", 50, 50).who(2), 1);
        });
        edge(words, "a row of 16, right and wrong in the last", () -> {
            int[] row = new int[16];
            for (int i = 0; i < 16; i++) {
                row[i] = 50 - 2 * i;
            }
            due("right", withRow("pk0;pm0;", row).who(0), 2);
            row[15]++;
            due("wrong", withRow("pk0;pm0;", row).who(0), 0);
        });
        edge(words, "by those who know that face", () -> {
            // Three know the face of 0, only its owner the face of 1.
            String town = "pk0;pd0;pg0;k10;k20;";
            due("a dentist", withRow(town, 50, 53, 56).who(0), 2);
            due("a girl", withRow(town, 50, 51, 52).who(0), 4);
            due("a dentist in his own", withRow(town, 50, 51, 52).who(1), 2);
            due("a girl in the dentist's", withRow(town, 50, 49, 48).who(1), 4);
        });
        edge(words, "from now on: a lent face does not come back", () -> {
            int[] row = new int[16];
            for (int i = 0; i < 16; i++) {
                row[i] = 50 - i;
            }
            due("who", withRow("pk0;pb3;l01;", row).who(0), 2);
        });
        edge(words, "nobody else: him who has it now aside", () -> {
            due("the lender", withRow("pp0;pm0;l01;", 50, 51, 52).who(0), 1);
            due("of a face that rests", withRow("pp0;pm0;l01;", 50, 48, 46).who(1), 2);
        });
        edge(words, "at 0 and at 99", () -> {
            due("0 by a murderer", withRow("pm0;pb9;pk0;pp0;f003;", 3, 1, 0, 0).who(0), 1);
            due("0 by a beggar", withRow("pm0;pb9;pk0;pp0;f003;", 3, 0, 0).who(0), 2);
            due("0 by both", withRow("pm0;pb9;pk0;pp0;f002;", 2, 0, 0).who(0), 3);
            due("99", withRow("pm0;pk0;pp0;f098;", 98, 99, 99).who(0), 4);
        });
        edge("WHO by the ROW (bits; it stays)", "the row stays", () -> {
            EachLendsHisFace x = withRow("pk0;", 50, 50);
            due("who", x.who(0), 1);
            due("in the row", x.count(6), 2);
            due("again", x.who(0), 1);
        });
    }

    private static void widow() {
        String words = "whether the first KNOWS the FACE of the second and takes somebody else for him now: who that is; -9.";
        edge(words, "he is himself", () -> due("widow", townOf("pk0;pk0;k01;").widow(0, 1), -9));
        edge(words, "somebody else", () -> due("widow", townOf("pk0;pk0;pk0;k01;l12;").widow(0, 1), 2));
        edge(words, "the face is not known", () -> due("widow", townOf("pk0;pk0;pk0;k02;l12;").widow(0, 1), -9));
        edge(words, "nobody wears it", () -> due("widow", townOf("pk0;pk0;pk0;k02;l12;").widow(0, 2), -9));
        edge(words, "known since, and not any more", () -> {
            EachLendsHisFace x = townOf("pk0;pk0;pk0;l12;");
            x.learns(0, 1);
            due("known", x.widow(0, 1), 2);
            x.learns(0, 1);
            due("not any more", x.widow(0, 1), -9);
        });
        edge(words, "the first himself wears it", () -> due("widow", townOf("pk0;pk0;k01;l10;").widow(0, 1), -9));
        edge(words, "the first wears a plain one", () ->
            due("widow", townOf("pk0;pk0;pk0;pk0;k01;l12;l03;").widow(0, 1), 2));
        edge(words, "now: no more when it came back", () -> {
            due("behind 11", townOf("pk0;pk0;pk0;k01;l12;m11;").widow(0, 1), 2);
            due("behind 12", townOf("pk0;pk0;pk0;k01;l12;m12;").widow(0, 1), -9);
        });
        edge(words, "the last of eight", () -> due("widow", townOf(EIGHT + "k56;l67;").widow(5, 6), 7));
    }

    private static void twins() {
        String words = "TWINS: how many twos of FACES have FAME and SCARS alike; the first (10 the lesser and the other); -9.";
        edge(words, "nobody, one alone", () -> {
            due("nobody", new EachLendsHisFace().twins(0), 0);
            due("nobody, the first", new EachLendsHisFace().twins(1), -9);
            due("one", townOf("pk0;").twins(0), 0);
            due("one, the first", townOf("pk0;").twins(1), -9);
        });
        edge(words, "all of eight", () -> {
            due("how many", townOf(EIGHT).twins(0), 28);
            due("the first", townOf(EIGHT).twins(1), 1);
        });
        edge(words, "the last two", () -> {
            EachLendsHisFace x = townOf(EIGHT + "f000;f101;f202;f303;f404;f505;");
            due("how many", x.twins(0), 1);
            due("the first", x.twins(1), 67);
        });
        edge(words, "the first by the lesser, then the other", () ->
            due("the first", townOf("pk0;pk0;pk0;pk0;f010;f110;f211;f311;").twins(1), 1));
        edge(words, "the first is not of neighbours", () ->
            due("the first", townOf("pk0;pk0;pk0;pk0;f010;f111;f211;f310;").twins(1), 3));
        edge(words, "fame alike is not enough", () -> {
            EachLendsHisFace x = townOf("pk0;pk0;");
            x.becomes(0, 1, 1);
            due("how many", x.twins(0), 0);
            due("the first", x.twins(1), -9);
        });
        edge(words, "scars alike are not enough, worth is not enough", () -> {
            EachLendsHisFace x = townOf("pk0;pk0;f151;");
            due("scars alike", x.twins(0), 0);
            x.becomes(1, 1, 1);
            due("worth alike", x.twins(0), 0);
        });
    }

    private static void two() {
        String words = "each wants most WORTH of his own FACE behind n MONTHS (0 .. 24)";
        edge(words, "0 months: nobody gains", () -> due("two", townOf("pm0;pm0;").two(0, 1, 0), 0));
        edge(words, "1 month, 24 months", () -> {
            due("1", townOf("pm0;pm0;").two(0, 1, 1), 10);
            due("24", townOf("pm0;pm0;").two(0, 1, 24), 10);
        });
        String first = "the first pair (10 the first's and the other's) by which neither has more by another one alone; -9.";
        edge(first, "0 and 0", () -> due("two", townOf("pp0;pp0;").two(0, 1, 6), 0));
        edge(first, "0 and 1", () -> {
            // In the keeper's hands the murderer's face rests, and so does the keeper's own.
            due("two", townOf("pm0;pk0;").two(0, 1, 6), 1);
        });
        edge(first, "1 and 0", () -> due("two", townOf("pk0;pm0;").two(1, 0, 6), 1));
        edge(first, "1 and 0, the first would have it his", () -> due("two", townOf("pm0;pm0;").two(0, 1, 6), 10));
        edge(first, "1 and 1", () -> due("two", townOf("pp0;pb6;").two(0, 1, 6), 11));
        edge(first, "in each order", () -> {
            due("the beggar first", townOf("pp0;pb6;").two(1, 0, 6), 10);
            due("of the last and the first", townOf("pb6;" + "pk0;".repeat(6) + "pp0;").two(0, 7, 6), 10);
        });
        edge("(1, if it CAN be then; the first ahead)", "it can not be at all", () -> {
            due("lent to one another", townOf("pm0;pm0;l01;").two(0, 1, 6), 0);
            due("the first is not at home", townOf("pm0;pm0;pk0;l02;").two(0, 1, 6), 0);
            due("the other is not at home", townOf("pm0;pm0;pk0;l12;").two(0, 1, 6), 0);
        });
        edge("(1, if it CAN be then; the first ahead)", "the first ahead: the other's can not be then", () -> {
            // Were the other ahead, the person's face would be the beggar's, and his best were another.
            due("two", townOf("pp0;pb6;").two(0, 1, 6), 11);
            due("the first has the better of it", townOf("pm0;pm0;").two(1, 0, 6), 10);
        });
    }

    private static void fraction(EachLendsHisFace x, int[] v, long above, long below) {
        String call = "quarrel" + java.util.Arrays.toString(v);
        due(call + " above", x.quarrel(v[0], v[1], v[2], v[3], 0), above);
        due(call + " below", x.quarrel(v[0], v[1], v[2], v[3], 1), below);
    }

    private static void quarrel() {
        String words = "in each of n MONTHS (0 .. 7), by itself, with odds 1 in t (2 .. 20) a told FACE has SCARS 3 more besides";
        edge(words, "0 months", () -> {
            fraction(townOf("pk0;"), new int[] {0, 0, 2, 0}, 1, 1);
            fraction(townOf("pk0;"), new int[] {0, 0, 20, 1}, 0, 1);
        });
        edge(words, "1 month", () -> fraction(townOf("pk0;"), new int[] {0, 1, 2, 3}, 1, 2));
        edge(words, "7 months", () -> {
            fraction(townOf("pk0;"), new int[] {0, 7, 2, 21}, 1, 128);
            fraction(townOf("pk0;"), new int[] {0, 7, 2, 22}, 0, 1);
            fraction(townOf("pk0;"), new int[] {0, 7, 20, 21}, 1, 1280000000L);
            fraction(townOf("pk0;"), new int[] {0, 7, 20, 1}, 1280000000L - 893871739L, 1280000000L);
        });
        edge(words, "odds of 2 and of 20", () -> {
            fraction(townOf("pk0;"), new int[] {0, 2, 2, 1}, 3, 4);
            fraction(townOf("pk0;"), new int[] {0, 2, 20, 1}, 39, 400);
        });
        String likely = "how likely its SCARS are v (0 .. 99) or more behind these: a fraction.";
        edge(likely, "v 0: sure", () -> fraction(townOf("pk0;"), new int[] {0, 7, 20, 0}, 1, 1));
        edge(likely, "v itself, and one more", () -> {
            fraction(townOf("pk0;"), new int[] {0, 3, 2, 6}, 1, 2);
            fraction(townOf("pk0;"), new int[] {0, 3, 2, 7}, 1, 8);
            fraction(townOf("pk0;"), new int[] {0, 3, 2, 9}, 1, 8);
            fraction(townOf("pk0;"), new int[] {0, 3, 2, 10}, 0, 1);
        });
        edge(likely, "v 99, and scars 99 at most", () -> {
            for (int scars = 96; scars <= 99; scars++) {
                EachLendsHisFace x = townOf("pk0;");
                x.becomes(0, 1, scars);
                fraction(x, new int[] {0, 2, 2, 99}, scars == 99 ? 1 : 3, scars == 99 ? 1 : 4);
            }
            EachLendsHisFace x = townOf("pk0;");
            x.becomes(0, 1, 95);
            fraction(x, new int[] {0, 2, 2, 99}, 1, 4);
        });
        edge(likely, "with what he does who wears it", () -> {
            fraction(townOf("pm0;"), new int[] {0, 7, 2, 7}, 1, 1);
            fraction(townOf("pm0;"), new int[] {0, 7, 2, 8}, 127, 128);
            fraction(townOf("pk0;pm0;l01;"), new int[] {0, 2, 2, 5}, 3, 4);
            fraction(townOf("pk0;pm0;l01;"), new int[] {1, 2, 2, 5}, 1, 4);
        });
        edge(likely, "it comes back in between", () ->
            // Lent for 11 months, the murderer has it for one more.
            fraction(townOf("pk0;pm0;l01;m11;"), new int[] {0, 3, 2, 13}, 7, 8));
    }

    private static void mean() {
        String words = "MEAN: of FAME: a fraction (0 by 1 of nobody).";
        edge(words, "nobody", () -> {
            due("above", new EachLendsHisFace().mean(0), 0);
            due("below", new EachLendsHisFace().mean(1), 1);
        });
        edge(words, "one alone", () -> {
            due("above", townOf("pk0;f099;").mean(0), 99);
            due("below", townOf("pk0;f099;").mean(1), 1);
        });
        edge(words, "all at 0", () -> {
            due("above", townOf("pk0;pk0;f000;f100;").mean(0), 0);
            due("below", townOf("pk0;pk0;f000;f100;").mean(1), 1);
        });
        edge(words, "eight, and not a whole number", () -> {
            due("above", townOf(EIGHT + "f751;").mean(0), 401);
            due("below", townOf(EIGHT + "f751;").mean(1), 8);
        });
        edge(words, "cut by what both have", () -> {
            due("above", townOf(EIGHT + "f752;").mean(0), 201);
            due("below", townOf(EIGHT + "f752;").mean(1), 4);
        });
        edge(words, "all faces, those that nobody wears, too", () -> {
            due("above", townOf("pk0;pk0;f199;l01;").mean(0), 149);
            due("below", townOf("pk0;pk0;f199;l01;").mean(1), 2);
        });
    }

    private static void whatIs() {
        String words = "KINDS (bits) of him by which all of it is so; FIGURES (bits 0 .. 9); a PLAIN one: 0.";
        edge(words, "a row of none: all", () -> {
            due("kinds", townOf("pk0;").whatIs(0, 0), 63);
            due("figures", townOf("pk0;").whatIs(0, 1), 1023);
        });
        edge(words, "a plain one: 0, with a row of none, too", () -> {
            due("kinds", townOf("pk0;pk0;l01;").whatIs(0, 0), 0);
            due("figures", townOf("pk0;pk0;l01;").whatIs(0, 1), 0);
            due("with a row", withRow("pk0;pk0;l01;", 50, 50).whatIs(0, 0), 0);
        });
        edge(words, "behind 0 months it is as it is now", () -> {
            due("so", withRow("pk0;", 50).whatIs(0, 0), 63);
            due("not so", withRow("pk0;", 49).whatIs(0, 0), 0);
            due("figures not so", withRow("pk0;", 49).whatIs(0, 1), 0);
        });
        edge(words, "each kind", () -> {
            due("a person, a dentist known by himself", withRow("pk0;", 50, 51).whatIs(0, 0), 1 + 16);
            due("a keeper, a beggar of 0", withRow("pk0;", 50, 50).whatIs(0, 0), 2 + 8);
            due("a murderer", withRow("pk0;", 50, 48).whatIs(0, 0), 4);
            due("a girl, a beggar of 3", withRow("pk3;", 50, 49).whatIs(0, 0), 2 + 32);
        });
        edge(words, "figures 0 .. 9 of a beggar", () -> {
            due("cut to 0", withRow("pb5;", 50, 50).whatIs(0, 1), 1 + 2 + 4);
            due("cut to 1", withRow("pb9;", 50, 49).whatIs(0, 1), 8 + 16 + 32);
            due("cut to 2", withRow("pb9;", 50, 48).whatIs(0, 1), 64 + 128 + 256);
            due("cut to 3", withRow("pb0;", 50, 47).whatIs(0, 1), 512);
        });
        edge(words, "figures of one whom they do not change", () -> {
            due("so", withRow("pm0;", 50, 48).whatIs(0, 1), 1023);
            due("not so", withRow("pm0;", 50, 49).whatIs(0, 1), 0);
        });
        edge(words, "all of it: wrong in the last of 16", () -> {
            int[] row = new int[16];
            for (int i = 0; i < 16; i++) {
                row[i] = 50 + i;
            }
            due("right", withRow("pp0;", row).whatIs(0, 0), 1 + 16);
            row[15]--;
            due("wrong", withRow("pp0;", row).whatIs(0, 0), 0);
        });
        edge(words, "of the last of eight", () -> {
            due("kinds", withRow(EIGHT, 50, 48).whatIs(7, 0), 4);
            due("figures", withRow("pk0;".repeat(7) + "pb0;", 50, 47).whatIs(7, 1), 512);
        });
        String worn = "a ROW tells FAME of the FACE that one WEARS now behind 0, 1, .. MONTHS";
        edge(worn, "another one's", () -> {
            due("kinds", withRow("pp0;pm0;f020;l01;", 20, 18, 16).whatIs(1, 0), 4);
            due("his own is not looked at", withRow("pp0;pm0;f020;l01;", 50, 50).whatIs(1, 0), 0);
        });
        edge(worn, "it comes back within the row", () -> {
            // Lent for 11 months: one month is his still, then its owner has it.
            due("kinds", withRow("pk0;pm0;l01;m11;f050;", 50, 48, 48, 48).whatIs(1, 0), 4);
            due("its owner's kind is as it is", withRow("pk0;pm0;l01;m11;f050;", 50, 48, 46).whatIs(1, 0), 0);
        });
        edge("WHAT ONE IS by the ROW (it stays)", "the row stays, and so does he", () -> {
            EachLendsHisFace x = withRow("pb4;", 50, 49);
            x.whatIs(0, 0);
            x.whatIs(0, 1);
            due("in the row", x.count(6), 2);
            due("kind", x.person(0, 0), 1);
            due("figure", x.person(0, 1), 4);
        });
    }

    private static void row() {
        String words = "A ROW of numbers (0 .. 99; 16 at most)";
        edge(words, "0 and 99", () -> {
            EachLendsHisFace x = townOf("pk0;pk0;");
            x.becomes(1, 1, 99);
            due("0", x.row(0), 1);
            due("99", x.row(99), 2);
            due("they are as told", x.judge(), -9);
        });
        edge(words, "the sixteenth, and no more", () -> {
            EachLendsHisFace x = new EachLendsHisFace();
            for (int i = 1; i <= 16; i++) {
                due("row", x.row(i), i);
            }
            due("the seventeenth", x.row(17), -6);
            due("still", x.count(6), 16);
            due("cleared", x.clear(), 16);
            due("the first again", x.row(1), 1);
        });
        String judged = "JUDGED: SCARS of FACES 0, 1, ..: the first that is not so (none there, too); -9.";
        edge(judged, "a row of none", () -> {
            due("nobody", new EachLendsHisFace().judge(), -9);
            due("one", townOf("pk0;").judge(), -9);
        });
        edge(judged, "none there", () -> {
            due("of nobody", Edges.withRow(new EachLendsHisFace(), 0).judge(), 0);
            due("of two", withRow("pk0;pk0;", 0, 0, 0).judge(), 2);
            due("of eight, 16 told", withRow(EIGHT, new int[16]).judge(), 8);
        });
        edge(judged, "as many as there are", () -> due("judge", withRow(EIGHT, new int[8]).judge(), -9));
        edge(judged, "fewer than there are", () -> due("judge", withRow(EIGHT, 0).judge(), -9));
        edge(judged, "the first that is not so", () -> {
            due("the first", withRow("pk0;pk0;pk0;", 1, 1, 1).judge(), 0);
            due("the second", withRow("pk0;pk0;pk0;", 0, 1, 1).judge(), 1);
            due("the last of eight", withRow(EIGHT, 0, 0, 0, 0, 0, 0, 0, 99).judge(), 7);
            due("ahead of none there", withRow("pk0;pk0;", 0, 1, 0).judge(), 1);
        });
        edge("JUDGED; -9 (the ROW has none then).", "so or not", () -> {
            EachLendsHisFace x = withRow("pk0;", 0);
            due("so", x.judge(), -9);
            due("in the row", x.count(6), 0);
            Edges.withRow(x, 1, 2);
            due("not so", x.judge(), 0);
            due("in the row", x.count(6), 0);
            due("the next is the first", x.row(7), 1);
        });
        edge("The ROW has none then: how many it had.", "none, one, 16", () -> {
            EachLendsHisFace x = new EachLendsHisFace();
            due("none", x.clear(), 0);
            x.row(5);
            due("one", x.clear(), 1);
            due("none again", x.clear(), 0);
            Edges.withRow(x, new int[16]);
            due("16", x.clear(), 16);
            due("none then", x.count(6), 0);
        });
    }

    private static void lots() {
        String towns = "LOTS with a seed z: n towns (1 .. 20), each from now";
        edge(towns, "1 and 20 towns of one alone", () -> {
            due("1", townOf("pm0;").lots(1, 0, 0), 50 - 18);
            due("20", townOf("pm0;").lots(20, 0, 0), 20 * (50 - 18));
            due("1, scars", townOf("pm0;").lots(1, 0, 1), 6);
            due("20, scars", townOf("pm0;").lots(20, 0, 1), 20 * 6);
        });
        edge(towns, "the seed goes on from town to town", () -> {
            EachLendsHisFace x = townOf("pp2;pb7;pm4;pk0;pd8;pg1;");
            int z = 7;
            int sum = 0;
            for (int i = 0; i < 20; i++) {
                sum += x.lots(1, z, 0);
                z = drawnOn(z, 8);
            }
            due("lots(20, 7, 0)", x.lots(20, 7, 0), sum);
        });
        edge(towns, "each from now: what is lent stays lent", () -> {
            // Both are out, so that no draw lends anything.
            due("worths", townOf("pk0;pm0;l01;").lots(2, 3, 0), 2 * (50 - 12 - 6 + 50));
            due("it comes back", townOf("pk0;pm0;l01;m11;f050;").lots(1, 3, 1), 11 + 1 + 5);
        });
        edge("(a LENDING, if it can be and they are two)", "one alone lends to nobody", () ->
            due("worths", townOf("pp0;").lots(20, 99, 0), 20 * 56));
        edge("(a LENDING, if it can be and they are two)", "of two, by hand", () -> {
            for (int z : new int[] {0, 1, 2, 3, 4, 5, 6, 7, 8, 9, -1, Edges.LEAST, Edges.MOST}) {
                due("lots(1, " + z + ", 0)", townOf("pm0;pp0;").lots(1, z, 0), worthsOfTwo(z));
            }
        });
        String draw = "A DRAW below m: z becomes z times 1664525 and 1013904223 (an int); (z without its sign's bit by 256, cut) modulo m.";
        edge(draw, "seeds at the ends and at 0", () -> {
            for (int z : new int[] {0, 1, -1, Edges.LEAST, Edges.MOST}) {
                EachLendsHisFace x = townOf("pm0;pp0;pd7;pb9;pk0;");
                long worths = drawnByHand("pm0;pp0;pd7;pb9;pk0;", 5, z);
                due("lots(1, " + z + ", 0)", x.lots(1, z, 0), worths);
            }
        });
        edge(draw, "below eight", () -> {
            String eight = "pm0;pp0;pd7;pb9;pk0;pg6;pp1;pm2;";
            for (int z = 0; z < 20; z++) {
                due("lots(1, " + z + ", 0)", townOf(eight).lots(1, z, 0), drawnByHand(eight, 8, z));
            }
        });
    }

    private static int drawnOn(int z, int times) {
        int seed = z;
        for (int i = 0; i < times; i++) {
            seed = (int) (seed * 1664525L + 1013904223L);
        }
        return seed;
    }

    private static int drawn(int z, int m) {
        long unsigned = z < 0 ? z + 2147483648L : z;
        return (int) (unsigned / 256 % m);
    }

    /** The same draws, done by calls of lends() and months(). */
    private static long drawnByHand(String letters, int people, int z) {
        EachLendsHisFace x = townOf(letters);
        int seed = z;
        for (int i = 0; i < 4; i++) {
            seed = drawnOn(seed, 1);
            int lender = drawn(seed, people);
            seed = drawnOn(seed, 1);
            x.lends(lender, drawn(seed, people));
        }
        x.months(6);
        return x.count(3) - x.count(4);
    }

    private static long worthsOfTwo(int z) {
        int seed = z;
        for (int i = 0; i < 4; i++) {
            seed = drawnOn(seed, 1);
            int lender = drawn(seed, 2);
            seed = drawnOn(seed, 1);
            if (lender != drawn(seed, 2)) {
                // The murderer's face in the person's hands, or the other way round; the face below it rests.
                return lender == 0 ? 56 + 50 : 50 + 50 - 18;
            }
        }
        return 56 + 50 - 18;
    }

    private static void image() {
        String words = "THE IMAGE: all that there is, but it, the ROW, letters, REFUSALS; ON from it all is as then.";
        String town = "pp3;pm0;pd7;k01;l01;m02;f266;";
        edge(words, "all is as then", () -> {
            EachLendsHisFace x = townOf(town);
            x.becomes(2, 1, 33);
            String state = Edges.stateOf(x);
            due("image()", x.image(), 2);
            x.turn(0, 3, 9);
            x.learns(0, 1);
            x.becomes(0, 1, 77);
            x.back(0);
            x.months(20);
            Edges.tell(x, "pg1;pg2;");
            due("on()", x.on(), 2);
            Edges.same("state", Edges.stateOf(x), state);
        });
        edge(words, "nobody is an image, too", () -> {
            EachLendsHisFace x = new EachLendsHisFace();
            due("image()", x.image(), 0);
            Edges.tell(x, town);
            due("on()", x.on(), 0);
            due("people", x.count(0), 0);
            due("he who comes then is new", Edges.tell(x, "pk0;"), 1);
            Edges.same("state", Edges.stateOf(x), Edges.stateOf(townOf("pk0;")));
        });
        edge(words, "those who came behind it are nobody again", () -> {
            EachLendsHisFace x = townOf("pk0;pk0;");
            x.image();
            Edges.tell(x, "pp0;pp0;l23;");
            due("home", x.first(2), 12);
            x.on();
            due("person(2, 0)", x.person(2, 0), -1);
            due("learns(0, 3)", x.learns(0, 3), -1);
            due("lends(0, 2)", x.lends(0, 2), -1);
            due("told", Edges.tell(x, "k02;"), -2000);
            due("fewest", x.fewest(0, 51, 0), -9);
        });
        edge(words, "those who came behind it are in no pair", () -> {
            EachLendsHisFace x = townOf("pm0;");
            x.image();
            Edges.tell(x, "pk0;");
            x.on();
            due("lot", x.lot(1), 50 - 24 - 12);
        });
        edge(words, "those who came behind it are not judged", () -> {
            EachLendsHisFace x = townOf("pk0;pk0;");
            x.image();
            Edges.tell(x, "pk0;");
            x.on();
            due("judge", Edges.withRow(x, 0, 0, 0).judge(), 2);
        });
        edge(words, "of nobody: nobody draws lots", () -> {
            EachLendsHisFace x = new EachLendsHisFace();
            x.image();
            Edges.tell(x, "pp0;pp0;");
            due("of two", x.lots(1, 1, 1), 0);
            x.on();
            due("of nobody", x.lots(1, 1, 1), Edges.FAR + 3);
            due("mean", x.mean(1), 1);
            due("famous", x.famous(0), -9);
        });
        edge(words, "not the row", () -> {
            EachLendsHisFace x = townOf(town);
            x.row(1);
            x.image();
            x.row(2);
            x.on();
            due("in the row", x.count(6), 2);
            x.clear();
            x.on();
            due("none in the row", x.count(6), 0);
        });
        edge(words, "not the letters", () -> {
            EachLendsHisFace x = townOf(town);
            x.letter('p');
            x.image();
            x.letter('k');
            x.on();
            due("letters", x.count(7), 2);
            x.letter('0');
            x.letter(';');
            due("they are a town", x.town(), 1);
            x.on();
            due("no letters", x.count(7), 0);
        });
        edge(words, "not the refusals", () -> {
            EachLendsHisFace x = townOf(town);
            x.image();
            x.months(0);
            x.on();
            due("refusals", x.count(14), 1);
        });
        edge(words, "but it: on goes on from the same image again", () -> {
            EachLendsHisFace x = townOf(town);
            x.image();
            String state = Edges.stateOf(x);
            for (int i = 0; i < 3; i++) {
                x.months(13);
                due("on()", x.on(), 2);
                Edges.same("state", Edges.stateOf(x), state);
            }
        });
        edge("THE IMAGE is taken: MONTH.", "the later one alone", () -> {
            EachLendsHisFace x = townOf(town);
            due("first", x.image(), 2);
            x.months(5);
            due("later", x.image(), 7);
            x.months(5);
            due("on()", x.on(), 7);
        });
        edge("THE IMAGE is taken: MONTH.", "at 999", () -> {
            EachLendsHisFace x = Edges.agedTownOf("pk0;", 999);
            due("image()", x.image(), 999);
            due("on()", x.on(), 999);
            due("no more months", x.months(1), -6);
        });
        edge("THE IMAGE is taken: MONTH.", "what comes then does not change it", () -> {
            EachLendsHisFace x = townOf("pk0;pk0;");
            x.image();
            x.becomes(0, 0, 99);
            x.lends(0, 1);
            x.on();
            due("fame", x.face(0, 0), 50);
            x.becomes(0, 0, 12);
            x.on();
            due("fame again", x.face(0, 0), 50);
        });
    }

    private static void count() {
        String words = "6 in the ROW, 7 letters, 11 .. 16 REFUSALS -1 .. -6. -9 for another what.";
        edge(words, "another what", () -> {
            EachLendsHisFace x = townOf("pk0;");
            for (int what : new int[] {-1, 8, 9, 10, 17, 18, Edges.LEAST, Edges.MOST}) {
                Edges.taken(x, "count(" + what + ")", y -> y.count(what), -9);
            }
        });
        edge(words, "each refusal by its number", () -> {
            EachLendsHisFace x = townOf("pk0;");
            x.worth(1);
            x.first(3);
            x.first(3);
            x.back(0);
            x.back(0);
            x.back(0);
            for (int i = 0; i < 4; i++) {
                x.row(-1);
            }
            for (int i = 0; i < 5; i++) {
                x.row(100);
            }
            Edges.same("refusals", Edges.refusalsOf(x), "1 2 3 4 0 5 ");
        });
        edge("0 PEOPLE, 1 MONTH, 2 how many are LENT, 3 all FAME, 4 all SCARS, 5 PLAIN ones (bits)", "of nobody", () -> {
            EachLendsHisFace x = new EachLendsHisFace();
            for (int what = 0; what <= 7; what++) {
                due("count(" + what + ")", x.count(what), 0);
            }
        });
        edge("0 PEOPLE, 1 MONTH, 2 how many are LENT, 3 all FAME, 4 all SCARS, 5 PLAIN ones (bits)", "of eight", () -> {
            EachLendsHisFace x = townOf(EIGHT + "l01;l32;l45;l76;");
            for (int face = 0; face < 8; face++) {
                x.becomes(face, 0, 99);
                x.becomes(face, 1, 99);
            }
            x.row(0);
            x.letter(0);
            int[] counts = {8, 0, 4, 792, 792, 1 + 8 + 16 + 128, 1, 1};
            for (int what = 0; what <= 7; what++) {
                due("count(" + what + ")", x.count(what), counts[what]);
            }
        });
    }
}
