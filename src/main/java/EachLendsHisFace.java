/** A town whose people go about in their own face, in another one's, or in a plain one. */
public final class EachLendsHisFace {
    private static final int MOST_PEOPLE = 8;
    private static final int MOST_LETTERS = 96;
    private static final int MOST_IN_ROW = 16;
    private static final int MOST_MARK = 99;
    private static final int MOST_FIGURE = 9;
    private static final int MOST_MONTH = 999;
    private static final int MOST_MONTHS = 60;
    private static final int MONTHS_FORESEEN = 24;
    private static final int MONTHS_OF_A_LOAN = 12;
    private static final int MONTHS_OF_A_DRAWN_TOWN = 6;
    private static final int LENDINGS_OF_A_DRAWN_TOWN = 4;
    private static final int KINDS = 6;
    private static final int PLAIN = 9;
    private static final int NONE = -9;
    private static final int ALL_BUT_THE_SIGN = 0x7fffffff;

    private static final int NOBODY = -1;
    private static final int OTHER = -2;
    private static final int STATE = -3;
    private static final int BELOW = -4;
    private static final int ROOM = -6;
    private static final int INT_REFUSAL = 1000000000;
    private static final long LONG_REFUSAL = 4000000000000000000L;

    private final Town now;
    private final Town mind;
    private final Town kept;
    private final Telling telling;
    private final int[] told;
    private final int[] refusals;
    private final int[] free;
    private final int[] firstWorths;
    private final int[] otherWorths;
    private int toldSize;
    private boolean hasKept;

    public EachLendsHisFace() {
        Person[] kinds = {new Person(), new Beggar(), new Murderer(), new Keeper(), new Dentist(), new Girl()};
        now = new Town(kinds);
        mind = new Town(kinds);
        kept = new Town(kinds);
        telling = new Telling();
        told = new int[MOST_IN_ROW];
        refusals = new int[7];
        free = new int[MOST_PEOPLE];
        firstWorths = new int[4];
        otherWorths = new int[4];
        toldSize = 0;
        hasKept = false;
    }

    // ---- the town as it is told, and as it is ----

    public int letter(int c) {
        int fault = rangeFault(c, 0, 255);
        if (fault != 0) {
            return refuse(fault);
        }
        if (!telling.takes(c)) {
            return refuse(ROOM);
        }
        return telling.size;
    }

    public int town() {
        mind.becomeLike(now);
        int answer = telling.carryOut(mind);
        if (answer > 0) {
            now.becomeLike(mind);
        }
        telling.size = 0;
        return answer;
    }

    public int person(int person, int what) {
        int fault = firstOf(personFault(person), whatFault(what, 4));
        if (fault != 0) {
            return refuse(fault);
        }
        switch (what) {
            case 0:
                return now.kind[person];
            case 1:
                return now.figure[person];
            case 2:
                return now.known[person];
            default:
                return now.worn[person];
        }
    }

    public int face(int face, int what) {
        int fault = firstOf(personFault(face), whatFault(what, 4));
        if (fault != 0) {
            return refuse(fault);
        }
        return now.ofFace(face, what);
    }

    public int worth(int face) {
        int fault = personFault(face);
        if (fault != 0) {
            return refuseFarOff(fault);
        }
        return now.worthOf(face);
    }

    public int lends(int one, int other) {
        int fault = twoFault(one, other);
        if (fault != 0) {
            return refuse(fault);
        }
        if (!now.canLend(one, other)) {
            return refuse(STATE);
        }
        now.handOver(one, other);
        return now.lentFaces();
    }

    public int back(int one) {
        int fault = personFault(one);
        if (fault != 0) {
            return refuse(fault);
        }
        if (!now.isLent(one)) {
            return refuse(STATE);
        }
        return now.bringBack(one);
    }

    public int learns(int one, int other) {
        int fault = firstOf(personFault(one), personFault(other));
        if (fault != 0) {
            return refuse(fault);
        }
        now.turnKnowing(one, other);
        return now.knowsFace(one, other) ? 1 : 0;
    }

    public int becomes(int face, int what, int v) {
        int fault = firstOfThree(personFault(face), whatFault(what, 2), rangeFault(v, 0, MOST_MARK));
        if (fault != 0) {
            return refuse(fault);
        }
        int[] marks = what == 0 ? now.fame : now.scars;
        int was = marks[face];
        marks[face] = v;
        return was;
    }

    public int turn(int person, int kind, int figure) {
        int fault = firstOfThree(personFault(person), whatFault(kind, KINDS), rangeFault(figure, 0, MOST_FIGURE));
        if (fault != 0) {
            return refuse(fault);
        }
        int was = 10 * now.kind[person] + now.figure[person];
        now.kind[person] = kind;
        now.figure[person] = figure;
        return was;
    }

    public int months(int n) {
        int fault = rangeFault(n, 1, MOST_MONTHS);
        if (fault != 0) {
            return refuse(fault);
        }
        if (now.month + n > MOST_MONTH) {
            return refuse(ROOM);
        }
        now.goOn(n);
        return now.lentFaces();
    }

    // ---- the months to come, in mind ----

    public int faceThen(int face, int n, int what) {
        int fault = firstOfThree(personFault(face), rangeFault(n, 0, MOST_MONTHS), whatFault(what, 4));
        if (fault != 0) {
            return refuse(fault);
        }
        think(n);
        return mind.ofFace(face, what);
    }

    public int wornThen(int person, int n) {
        int fault = firstOf(personFault(person), rangeFault(n, 0, MOST_MONTHS));
        if (fault != 0) {
            return refuse(fault);
        }
        think(n);
        return mind.worn[person];
    }

    public int first(int what) {
        int fault = whatFault(what, 3);
        if (fault != 0) {
            return refuse(fault);
        }
        return what == 2 ? monthsTillHome() : firstWithoutFame(what);
    }

    private int monthsTillHome() {
        mind.becomeLike(now);
        for (int n = 0; n <= MOST_MONTHS; n++) {
            if (mind.allWearTheirOwn()) {
                return n;
            }
            mind.goOn(1);
        }
        return NONE;
    }

    private int firstWithoutFame(int what) {
        mind.becomeLike(now);
        for (int n = 0; n <= MOST_MONTHS; n++) {
            int face = mind.faceWithoutFame();
            if (face != NONE) {
                return what == 0 ? face : n;
            }
            mind.goOn(1);
        }
        return NONE;
    }

    private void think(int n) {
        mind.becomeLike(now);
        mind.goOn(n);
    }

    // ---- who is taken for whom ----

    public int meets(int one, int other) {
        int fault = twoFault(one, other);
        if (fault != 0) {
            return refuse(fault);
        }
        return now.takenFor(one, other);
    }

    public int deceived(int person, int what) {
        int fault = firstOf(personFault(person), whatFault(what, 2));
        if (fault != 0) {
            return refuse(fault);
        }
        if (what == 0 && now.wearsOwn(person)) {
            return 0;
        }
        // Whoever knows a face that is not the wearer's own takes him for its owner: both counts are one.
        int count = 0;
        for (int one = 0; one < now.people; one++) {
            if (one != person && now.takenFor(one, person) != PLAIN) {
                count++;
            }
        }
        return count;
    }

    public int famous(int what) {
        int fault = whatFault(what, 2);
        if (fault != 0) {
            return refuse(fault);
        }
        int[] marks = what == 0 ? now.fame : now.scars;
        int best = NONE;
        int most = -1;
        for (int face = 0; face < now.people; face++) {
            if (marks[face] > most) {
                best = face;
                most = marks[face];
            }
        }
        return best;
    }

    public int chained(int what) {
        int fault = whatFault(what, 3);
        if (fault != 0) {
            return refuse(fault);
        }
        switch (what) {
            case 0:
                return now.wearersOfOthers();
            case 1:
                return now.plainWearers();
            default:
                return now.facesSeen();
        }
    }

    public int widow(int one, int other) {
        int fault = twoFault(one, other);
        if (fault != 0) {
            return refuse(fault);
        }
        int wearer = now.wearerOf(other);
        // Nobody meets himself: he who has the face on takes no one for its owner.
        if (wearer == NONE || wearer == other || wearer == one) {
            return NONE;
        }
        return now.knowsFace(one, other) ? wearer : NONE;
    }

    public int twins(int what) {
        int fault = whatFault(what, 2);
        if (fault != 0) {
            return refuse(fault);
        }
        int count = 0;
        int firstTwo = NONE;
        for (int lesser = 0; lesser < now.people; lesser++) {
            for (int other = lesser + 1; other < now.people; other++) {
                if (now.lookAlike(lesser, other)) {
                    firstTwo = count == 0 ? 10 * lesser + other : firstTwo;
                    count++;
                }
            }
        }
        return what == 0 ? count : firstTwo;
    }

    // ---- which lending is best ----

    public int lend(int person, int n, int what) {
        int fault = firstOfThree(personFault(person), rangeFault(n, 0, MONTHS_FORESEEN), whatFault(what, 2));
        if (fault != 0) {
            return refuse(fault);
        }
        if (!now.wearsOwn(person)) {
            return refuse(STATE);
        }
        return bestPartner(person, n, true, what == 0 ? 1 : -1);
    }

    public int take(int person, int n) {
        int fault = firstOf(personFault(person), rangeFault(n, 0, MONTHS_FORESEEN));
        if (fault != 0) {
            return refuse(fault);
        }
        if (!now.wearsOwn(person)) {
            return refuse(STATE);
        }
        return bestPartner(person, n, false, 1);
    }

    private int bestPartner(int person, int n, boolean personLends, int sign) {
        think(n);
        int most = sign * mind.worthOf(person);
        int best = NONE;
        for (int other = 0; other < now.people; other++) {
            if (now.canLend(person, other)) {
                thinkOfLending(personLends ? person : other, personLends ? other : person, n);
                int gain = sign * mind.worthOf(person);
                if (gain > most) {
                    most = gain;
                    best = other;
                }
            }
        }
        return best;
    }

    private void thinkOfLending(int lender, int other, int n) {
        mind.becomeLike(now);
        mind.handOver(lender, other);
        mind.goOn(n);
    }

    public int keep(int n) {
        int fault = rangeFault(n, 0, MONTHS_FORESEEN);
        if (fault != 0) {
            return refuse(fault);
        }
        think(n);
        int most = mind.allWorths();
        int best = NONE;
        for (int face = 0; face < now.people; face++) {
            if (now.isLent(face)) {
                mind.becomeLike(now);
                mind.bringBack(face);
                mind.goOn(n);
                if (mind.allWorths() > most) {
                    most = mind.allWorths();
                    best = face;
                }
            }
        }
        return best;
    }

    public int lot(int what) {
        int fault = whatFault(what, 2);
        if (fault != 0) {
            return refuseFarOff(fault);
        }
        int pairs = findFree() / 2;
        int best = 0;
        int most = worthsOfLot(0, pairs);
        for (int bits = 1; bits < 1 << pairs; bits++) {
            int worths = worthsOfLot(bits, pairs);
            if (worths > most) {
                most = worths;
                best = bits;
            }
        }
        return what == 0 ? best : most;
    }

    private int findFree() {
        int count = 0;
        for (int person = 0; person < now.people; person++) {
            if (now.wearsOwn(person)) {
                free[count] = person;
                count++;
            }
        }
        return count;
    }

    private int worthsOfLot(int bits, int pairs) {
        mind.becomeLike(now);
        for (int pair = 0; pair < pairs; pair++) {
            int lender = bits >> pair & 1;
            mind.handOver(free[2 * pair + lender], free[2 * pair + 1 - lender]);
        }
        mind.goOn(MONTHS_OF_A_LOAN);
        return mind.allWorths();
    }

    public int fewest(int face, int v, int what) {
        int fault = firstOfThree(personFault(face), rangeFault(v, 0, MOST_MARK), whatFault(what, 2));
        if (fault != 0) {
            return refuse(fault);
        }
        think(MONTHS_OF_A_LOAN);
        if (mind.fame[face] >= v) {
            return what == 0 ? 0 : NONE;
        }
        // Two lendings at once are among four people, so only one of them can touch this face:
        // what one does not bring, two do not.
        int lender = firstLenderBringing(face, v);
        return what == 0 && lender != NONE ? 1 : lender;
    }

    private int firstLenderBringing(int face, int v) {
        for (int lender = 0; lender < now.people; lender++) {
            for (int other = 0; other < now.people; other++) {
                if (now.canLend(lender, other)) {
                    thinkOfLending(lender, other, MONTHS_OF_A_LOAN);
                    if (mind.fame[face] >= v) {
                        return lender;
                    }
                }
            }
        }
        return NONE;
    }

    public int two(int a, int b, int n) {
        int fault = firstOf(twoFault(a, b), rangeFault(n, 0, MONTHS_FORESEEN));
        if (fault != 0) {
            return refuse(fault);
        }
        for (int choice = 0; choice < 4; choice++) {
            mind.becomeLike(now);
            if (choice >= 2 && mind.canLend(b, a)) {
                mind.handOver(b, a);
            }
            if (choice % 2 == 1 && mind.canLend(a, b)) {
                mind.handOver(a, b);
            }
            mind.goOn(n);
            firstWorths[choice] = mind.worthOf(a);
            otherWorths[choice] = mind.worthOf(b);
        }
        return firstSettledChoice();
    }

    private int firstSettledChoice() {
        for (int choice = 0; choice < 4; choice++) {
            // In a choice the first one's part is the bit of 2, the other one's the bit of 1.
            boolean firstStays = firstWorths[choice ^ 2] <= firstWorths[choice];
            boolean otherStays = otherWorths[choice ^ 1] <= otherWorths[choice];
            if (firstStays && otherStays) {
                return 10 * (choice / 2) + choice % 2;
            }
        }
        return NONE;
    }

    // ---- odds and means ----

    public long quarrel(int face, int n, int t, int v, int part) {
        int below = firstOfThree(leastFault(n, 0), leastFault(t, 2), leastFault(v, 0));
        int above = firstOfThree(mostFault(n, 7), mostFault(t, 20), mostFault(v, MOST_MARK));
        int fault = firstOf(firstOfThree(personFault(face), below, above), whatFault(part, 2));
        if (fault != 0) {
            return refuseLong(fault);
        }
        think(n);
        return partOfFraction(waysOfScars(mind.scars[face], n, t, v), power(t, n), part);
    }

    private static long waysOfScars(int quiet, int n, int t, int v) {
        // Scars only grow, so it does not matter in which of the months the quarrels are.
        long ways = 0;
        long choices = 1;
        for (int quarrels = 0; quarrels <= n; quarrels++) {
            if (Math.min(quiet + 3 * quarrels, MOST_MARK) >= v) {
                ways += choices * power(t - 1, n - quarrels);
            }
            choices = choices * (n - quarrels) / (quarrels + 1);
        }
        return ways;
    }

    public long mean(int part) {
        int fault = whatFault(part, 2);
        if (fault != 0) {
            return refuseLong(fault);
        }
        return partOfFraction(now.allFame(), Math.max(now.people, 1), part);
    }

    private static long partOfFraction(long above, long below, int part) {
        long shared = greatestShared(above, below);
        long whole = part == 0 ? above : below;
        return shared == 0 ? whole : whole / shared;
    }

    private static long greatestShared(long a, long b) {
        long greater = a;
        long lesser = b;
        for (int step = 0; step < 100 && lesser != 0; step++) {
            long rest = greater % lesser;
            greater = lesser;
            lesser = rest;
        }
        return greater;
    }

    private static long power(long base, int times) {
        long product = 1;
        for (int i = 0; i < times; i++) {
            product *= base;
        }
        return product;
    }

    // ---- what a told row says ----

    public int row(int v) {
        int fault = rangeFault(v, 0, MOST_MARK);
        if (fault != 0) {
            return refuse(fault);
        }
        if (toldSize >= MOST_IN_ROW) {
            return refuse(ROOM);
        }
        told[toldSize] = v;
        toldSize++;
        return toldSize;
    }

    public int clear() {
        int had = toldSize;
        toldSize = 0;
        return had;
    }

    public int judge() {
        int wrong = NONE;
        for (int face = 0; face < toldSize && wrong == NONE; face++) {
            if (face >= now.people || now.scars[face] != told[face]) {
                wrong = face;
            }
        }
        toldSize = 0;
        return wrong;
    }

    public int who(int face) {
        int fault = personFault(face);
        if (fault != 0) {
            return refuse(fault);
        }
        int bits = 0;
        for (int person = 0; person < now.people; person++) {
            if (wearingFits(person, face)) {
                bits |= 1 << person;
            }
        }
        return bits;
    }

    private boolean wearingFits(int person, int face) {
        int change = now.changeOfFame(person, face);
        int fame = now.fame[face];
        for (int i = 0; i < toldSize; i++) {
            if (told[i] != fame) {
                return false;
            }
            fame = withinMarks(fame + change);
        }
        return true;
    }

    public int whatIs(int person, int what) {
        int fault = firstOf(personFault(person), whatFault(what, 2));
        if (fault != 0) {
            return refuse(fault);
        }
        int face = now.worn[person];
        if (!now.isThere(face)) {
            return 0;
        }
        int bits = 0;
        int ways = what == 0 ? KINDS : MOST_FIGURE + 1;
        for (int way = 0; way < ways; way++) {
            mind.becomeLike(now);
            int[] changed = what == 0 ? mind.kind : mind.figure;
            changed[person] = way;
            if (mindFits(face)) {
                bits |= 1 << way;
            }
        }
        return bits;
    }

    private boolean mindFits(int face) {
        for (int i = 0; i < toldSize; i++) {
            if (told[i] != mind.fame[face]) {
                return false;
            }
            mind.goOn(1);
        }
        return true;
    }

    // ---- lots, the image, counts ----

    public int lots(int n, int z, int what) {
        int fault = firstOf(rangeFault(n, 1, 20), whatFault(what, 2));
        if (fault != 0) {
            return refuseFarOff(fault);
        }
        if (now.people == 0) {
            return refuseFarOff(STATE);
        }
        int seed = z;
        int sum = 0;
        for (int i = 0; i < n; i++) {
            seed = drawTown(seed);
            sum += what == 0 ? mind.allWorths() : mind.allScars();
        }
        return sum;
    }

    private int drawTown(int z) {
        int seed = z;
        mind.becomeLike(now);
        for (int i = 0; i < LENDINGS_OF_A_DRAWN_TOWN; i++) {
            seed = nextSeed(seed);
            int lender = drawBelow(now.people, seed);
            seed = nextSeed(seed);
            int other = drawBelow(now.people, seed);
            if (mind.canLend(lender, other)) {
                mind.handOver(lender, other);
            }
        }
        mind.goOn(MONTHS_OF_A_DRAWN_TOWN);
        return seed;
    }

    private static int nextSeed(int z) {
        return z * 1664525 + 1013904223;
    }

    private static int drawBelow(int m, int z) {
        return m <= 0 ? 0 : (z & ALL_BUT_THE_SIGN) / 256 % m;
    }

    public int image() {
        kept.becomeLike(now);
        hasKept = true;
        return now.month;
    }

    public int on() {
        if (!hasKept) {
            return refuse(STATE);
        }
        now.becomeLike(kept);
        return now.month;
    }

    public int count(int what) {
        if (what >= 11 && what <= 16) {
            return refusals[what - 10];
        }
        switch (what) {
            case 0:
                return now.people;
            case 1:
                return now.month;
            case 2:
                return now.lentFaces();
            case 3:
                return now.allFame();
            case 4:
                return now.allScars();
            case 5:
                return now.plainWearers();
            case 6:
                return toldSize;
            case 7:
                return telling.size;
            default:
                return NONE;
        }
    }

    // ---- refusals: a fault is 0 where there is none ----

    private int personFault(int person) {
        return now.isThere(person) ? 0 : NOBODY;
    }

    private int twoFault(int one, int other) {
        return one == other ? NOBODY : firstOf(personFault(one), personFault(other));
    }

    private static int whatFault(int what, int ways) {
        return what >= 0 && what < ways ? 0 : OTHER;
    }

    private static int leastFault(int n, int least) {
        return n < least ? BELOW : 0;
    }

    private static int mostFault(int n, int most) {
        return n > most ? ROOM : 0;
    }

    private static int rangeFault(int n, int least, int most) {
        return firstOf(leastFault(n, least), mostFault(n, most));
    }

    private static int firstOf(int a, int b) {
        return a != 0 ? a : b;
    }

    private static int firstOfThree(int a, int b, int c) {
        return firstOf(a, firstOf(b, c));
    }

    private int refuse(int fault) {
        refusals[-fault]++;
        return fault;
    }

    private int refuseFarOff(int fault) {
        return INT_REFUSAL - refuse(fault);
    }

    private long refuseLong(int fault) {
        return LONG_REFUSAL - refuse(fault);
    }

    private static int withinMarks(int mark) {
        return Math.max(0, Math.min(MOST_MARK, mark));
    }

    // ---- the kinds: what one does in a month to the face he wears ----

    private static class Person {
        int fameChange(int figure, int knowers) {
            return 1;
        }

        int scarsMore(int figure) {
            return 0;
        }
    }

    private static class Beggar extends Person {
        int fameChange(int figure, int knowers) {
            return -(figure / 3);
        }
    }

    private static final class Murderer extends Person {
        int fameChange(int figure, int knowers) {
            return -2;
        }

        int scarsMore(int figure) {
            return 1;
        }
    }

    private static final class Keeper extends Person {
        int fameChange(int figure, int knowers) {
            return 0;
        }
    }

    private static class Dentist extends Beggar {
        int fameChange(int figure, int knowers) {
            return knowers;
        }

        int scarsMore(int figure) {
            return figure > 5 ? 1 : 0;
        }
    }

    private static final class Girl extends Dentist {
        int fameChange(int figure, int knowers) {
            return super.fameChange(figure, knowers) - 2;
        }
    }

    /** People and their faces in one month; the callers look whether numbers are of people who are there. */
    private static final class Town {
        private final Person[] kinds;
        private final int[] kind;
        private final int[] figure;
        private final int[] known;
        private final int[] worn;
        private final int[] fame;
        private final int[] scars;
        private final int[] lent;
        private int people;
        private int month;

        Town(Person[] kinds) {
            this.kinds = kinds;
            kind = new int[MOST_PEOPLE];
            figure = new int[MOST_PEOPLE];
            known = new int[MOST_PEOPLE];
            worn = new int[MOST_PEOPLE];
            fame = new int[MOST_PEOPLE];
            scars = new int[MOST_PEOPLE];
            lent = new int[MOST_PEOPLE];
            people = 0;
            month = 0;
        }

        void becomeLike(Town other) {
            people = other.people;
            month = other.month;
            for (int i = 0; i < people; i++) {
                kind[i] = other.kind[i];
                figure[i] = other.figure[i];
                known[i] = other.known[i];
                worn[i] = other.worn[i];
                fame[i] = other.fame[i];
                scars[i] = other.scars[i];
                lent[i] = other.lent[i];
            }
        }

        boolean isThere(int person) {
            return person >= 0 && person < people;
        }

        boolean takesIn(int itsKind, int itsFigure) {
            if (people >= MOST_PEOPLE) {
                return false;
            }
            kind[people] = itsKind;
            figure[people] = itsFigure;
            known[people] = 1 << people;
            worn[people] = people;
            fame[people] = 50;
            scars[people] = 0;
            lent[people] = 0;
            people++;
            return true;
        }

        boolean wearsOwn(int person) {
            return worn[person] == person;
        }

        boolean isLent(int face) {
            return lent[face] > 0;
        }

        boolean canLend(int lender, int other) {
            return lender != other && wearsOwn(lender) && wearsOwn(other);
        }

        void handOver(int lender, int other) {
            worn[lender] = PLAIN;
            worn[other] = lender;
            lent[lender] = 1;
        }

        int bringBack(int face) {
            int had = wearerOf(face);
            if (had != NONE) {
                worn[had] = had;
            }
            worn[face] = face;
            lent[face] = 0;
            return had;
        }

        int wearerOf(int face) {
            for (int person = 0; person < people; person++) {
                if (worn[person] == face) {
                    return person;
                }
            }
            return NONE;
        }

        int ofFace(int face, int what) {
            switch (what) {
                case 0:
                    return fame[face];
                case 1:
                    return scars[face];
                case 2:
                    return lent[face];
                default:
                    return wearerOf(face);
            }
        }

        void turnKnowing(int one, int face) {
            known[one] ^= 1 << face;
        }

        boolean knowsFace(int one, int face) {
            return (known[one] >> face & 1) == 1;
        }

        int takenFor(int one, int other) {
            int face = worn[other];
            return face != PLAIN && knowsFace(one, face) ? face : PLAIN;
        }

        int knowersOf(int face) {
            int count = 0;
            for (int person = 0; person < people; person++) {
                count += known[person] >> face & 1;
            }
            return count;
        }

        private boolean isKind(int its) {
            return its >= 0 && its < kinds.length;
        }

        int changeOfFame(int person, int face) {
            int its = kind[person];
            return isKind(its) ? kinds[its].fameChange(figure[person], knowersOf(face)) : 0;
        }

        void goOn(int months) {
            for (int i = 0; i < months; i++) {
                month++;
                for (int person = 0; person < people; person++) {
                    wearForAMonth(person);
                }
                for (int face = 0; face < people; face++) {
                    keepLentForAMonth(face);
                }
            }
        }

        private void wearForAMonth(int person) {
            int face = worn[person];
            int its = kind[person];
            // A plain face is nobody's, so it has no place in the rows.
            if (isThere(face) && isKind(its)) {
                Person his = kinds[its];
                fame[face] = withinMarks(fame[face] + his.fameChange(figure[person], knowersOf(face)));
                scars[face] = withinMarks(scars[face] + his.scarsMore(figure[person]));
            }
        }

        private void keepLentForAMonth(int face) {
            if (lent[face] >= MONTHS_OF_A_LOAN) {
                bringBack(face);
            } else if (isLent(face)) {
                lent[face]++;
            }
        }

        int worthOf(int face) {
            return fame[face] - scars[face];
        }

        int allFame() {
            return sumOf(fame);
        }

        int allScars() {
            return sumOf(scars);
        }

        int allWorths() {
            return allFame() - allScars();
        }

        private int sumOf(int[] marks) {
            int sum = 0;
            for (int face = 0; face < people; face++) {
                sum += marks[face];
            }
            return sum;
        }

        boolean lookAlike(int face, int other) {
            return fame[face] == fame[other] && scars[face] == scars[other];
        }

        int faceWithoutFame() {
            for (int face = 0; face < people; face++) {
                if (fame[face] == 0) {
                    return face;
                }
            }
            return NONE;
        }

        boolean allWearTheirOwn() {
            for (int person = 0; person < people; person++) {
                if (!wearsOwn(person)) {
                    return false;
                }
            }
            return true;
        }

        int lentFaces() {
            int count = 0;
            for (int face = 0; face < people; face++) {
                count += isLent(face) ? 1 : 0;
            }
            return count;
        }

        int wearersOfOthers() {
            int count = 0;
            for (int person = 0; person < people; person++) {
                count += worn[person] != PLAIN && !wearsOwn(person) ? 1 : 0;
            }
            return count;
        }

        int plainWearers() {
            int bits = 0;
            for (int person = 0; person < people; person++) {
                bits |= worn[person] == PLAIN ? 1 << person : 0;
            }
            return bits;
        }

        int facesSeen() {
            int bits = 0;
            for (int person = 0; person < people; person++) {
                bits |= worn[person] != PLAIN ? 1 << worn[person] : 0;
            }
            return bits;
        }
    }

    /** The letters that tell a town: statements, each a head, the signs that its shape asks for, and ";". */
    private static final class Telling {
        private static final int BROKEN = -1000;
        private static final int NOT_AS_IT_MUST_BE = -2000;
        private static final String KIND_LETTERS = "pbmkdg";

        private final int[] letters;
        private int size;

        Telling() {
            letters = new int[MOST_LETTERS];
            size = 0;
        }

        boolean takes(int c) {
            if (size >= MOST_LETTERS) {
                return false;
            }
            letters[size] = c;
            size++;
            return true;
        }

        /** How many statements came to the town, or the fault, and then the town is no town. */
        int carryOut(Town town) {
            int broken = brokenPlace();
            if (broken != NONE) {
                return BROKEN - broken;
            }
            int statements = 0;
            int at = 0;
            while (at < size) {
                if (!comesTo(town, at)) {
                    return NOT_AS_IT_MUST_BE - at;
                }
                at += 1 + shapeOf(letters[at]).length();
                statements++;
            }
            return statements;
        }

        private int brokenPlace() {
            String shape = "";
            int seen = 0;
            for (int at = 0; at < size; at++) {
                if (seen < shape.length()) {
                    if (!fits(letters[at], shape.charAt(seen))) {
                        return at;
                    }
                    seen++;
                } else {
                    shape = shapeOf(letters[at]);
                    seen = 0;
                    if (shape.isEmpty()) {
                        return at;
                    }
                }
            }
            return size == 0 || seen < shape.length() ? size : NONE;
        }

        /** What is due behind a head: "k" a letter of a kind, "0" a digit, ";" itself; empty if it is no head. */
        private static String shapeOf(int head) {
            switch (head) {
                case 'p':
                    return "k0;";
                case 'b':
                    return "0;";
                case 'l':
                case 'k':
                case 'm':
                    return "00;";
                case 'f':
                    return "000;";
                default:
                    return "";
            }
        }

        private static boolean fits(int c, char due) {
            switch (due) {
                case 'k':
                    return kindOf(c) >= 0;
                case '0':
                    return c >= '0' && c <= '9';
                default:
                    return c == due;
            }
        }

        private static int kindOf(int c) {
            return KIND_LETTERS.indexOf((char) c);
        }

        private boolean comesTo(Town town, int at) {
            switch (letters[at]) {
                case 'p':
                    return town.takesIn(kindOf(signAt(at + 1)), digitAt(at + 2));
                case 'l':
                    return lendingComes(town, digitAt(at + 1), digitAt(at + 2));
                case 'b':
                    return backComes(town, digitAt(at + 1));
                case 'k':
                    return knowingComes(town, digitAt(at + 1), digitAt(at + 2));
                case 'f':
                    return fameComes(town, digitAt(at + 1), twoDigitsAt(at + 2));
                default:
                    return monthsCome(town, twoDigitsAt(at + 1));
            }
        }

        private int signAt(int at) {
            return at < size ? letters[at] : 0;
        }

        private int digitAt(int at) {
            return signAt(at) - '0';
        }

        private int twoDigitsAt(int at) {
            return 10 * digitAt(at) + digitAt(at + 1);
        }

        private static boolean lendingComes(Town town, int one, int other) {
            boolean can = town.isThere(one) && town.isThere(other) && town.canLend(one, other);
            if (can) {
                town.handOver(one, other);
            }
            return can;
        }

        private static boolean backComes(Town town, int one) {
            boolean can = town.isThere(one) && town.isLent(one);
            if (can) {
                town.bringBack(one);
            }
            return can;
        }

        private static boolean knowingComes(Town town, int one, int other) {
            boolean can = town.isThere(one) && town.isThere(other);
            if (can) {
                town.turnKnowing(one, other);
            }
            return can;
        }

        private static boolean fameComes(Town town, int face, int fame) {
            boolean can = town.isThere(face);
            if (can) {
                town.fame[face] = fame;
            }
            return can;
        }

        private static boolean monthsCome(Town town, int n) {
            boolean can = rangeFault(n, 1, MOST_MONTHS) == 0 && town.month + n <= MOST_MONTH;
            if (can) {
                town.goOn(n);
            }
            return can;
        }
    }
}
