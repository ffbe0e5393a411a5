import java.util.ArrayList;
import java.util.List;
import java.util.Random;
import java.util.function.ToIntFunction;

/** Seeded runs of calls against a second, slow reading of the document that tries every way there is. */
public final class ModelTest {
    private static final String[] CALLS = {"letter", "town", "person", "face", "worth", "lends", "back", "learns", "becomes",
        "turn", "months", "faceThen", "wornThen", "first", "meets", "deceived", "famous", "lend", "take", "keep", "chained",
        "lot", "fewest", "who", "widow", "twins", "two", "quarrel", "mean", "whatIs", "row", "judge", "clear", "lots", "image",
        "on", "count"};
    private static final int RUNS = 3000;
    private static final int CALLS_OF_A_RUN = 300;

    /** One of people, with the face of his number. */
    private static final class One {
        int kind;
        int figure;
        int knows;
        int wears;
        int fame = 50;
        int scars;
        int lent;

        One copy() {
            One one = new One();
            one.kind = kind;
            one.figure = figure;
            one.knows = knows;
            one.wears = wears;
            one.fame = fame;
            one.scars = scars;
            one.lent = lent;
            return one;
        }

        int worth() {
            return fame - scars;
        }
    }

    private static final class Refused extends RuntimeException {
        final int number;

        Refused(int number) {
            this.number = number;
        }
    }

    private static final class World {
        final List<One> all = new ArrayList<>();
        int month;

        World copy() {
            World world = new World();
            world.month = month;
            for (One one : all) {
                world.all.add(one.copy());
            }
            return world;
        }

        boolean lend(int a, int b) {
            if (a == b || all.get(a).wears != a || all.get(b).wears != b) {
                return false;
            }
            all.get(a).wears = 9;
            all.get(b).wears = a;
            all.get(a).lent = 1;
            return true;
        }

        int back(int a) {
            int had = wearer(a);
            all.get(had).wears = had;
            all.get(a).wears = a;
            all.get(a).lent = 0;
            return had;
        }

        int wearer(int face) {
            for (int i = 0; i < all.size(); i++) {
                if (all.get(i).wears == face) {
                    return i;
                }
            }
            return -9;
        }

        int fameBy(One one, int face, int fame) {
            int knowers = (int) all.stream().filter(other -> (other.knows & 1 << face) != 0).count();
            int more = switch (one.kind) {
                case 0 -> 1;
                case 1 -> -(one.figure / 3);
                case 2 -> -2;
                case 3 -> 0;
                case 4 -> knowers;
                default -> knowers - 2;
            };
            return Math.max(0, Math.min(99, fame + more));
        }

        World pass(int months) {
            for (int i = 0; i < months; i++) {
                month++;
                for (One one : all) {
                    if (one.wears != 9) {
                        One owner = all.get(one.wears);
                        owner.fame = fameBy(one, one.wears, owner.fame);
                        boolean scar = one.kind == 2 || one.kind >= 4 && one.figure > 5;
                        owner.scars = Math.min(99, owner.scars + (scar ? 1 : 0));
                    }
                }
                for (int face = 0; face < all.size(); face++) {
                    if (all.get(face).lent > 0) {
                        all.get(face).lent++;
                        if (all.get(face).lent == 13) {
                            back(face);
                        }
                    }
                }
            }
            return this;
        }

        World then(int months) {
            return copy().pass(months);
        }

        int sum(ToIntFunction<One> of) {
            return all.stream().mapToInt(of).sum();
        }

        int bits(ToIntFunction<One> of) {
            int bits = 0;
            for (One one : all) {
                bits |= of.applyAsInt(one);
            }
            return bits;
        }
    }

    private World now = new World();
    private World kept;
    private String letters = "";
    private List<Integer> told = new ArrayList<>();
    private final int[] refused = new int[7];

    private void want(boolean right, int number) {
        if (!right) {
            refused[-number]++;
            throw new Refused(number);
        }
    }

    private void there(int... people) {
        for (int one : people) {
            want(one >= 0 && one < now.all.size(), -1);
        }
    }

    private void within(int n, int least, int most) {
        want(n >= least, -4);
        want(n <= most, -6);
    }

    private void what(int what, int ways) {
        want(what >= 0 && what < ways, -2);
    }

    long answer(String call, int[] v) {
        try {
            return switch (call) {
                case "letter" -> {
                    within(v[0], 0, 255);
                    want(letters.length() < 96, -6);
                    letters += (char) v[0];
                    yield letters.length();
                }
                case "town" -> town();
                case "person", "face" -> ofOne(call, v);
                case "worth" -> {
                    there(v[0]);
                    yield now.all.get(v[0]).worth();
                }
                case "lends", "back", "learns", "becomes", "turn", "months" -> change(call, v);
                case "faceThen", "wornThen", "first" -> later(call, v);
                case "meets", "deceived", "widow" -> seen(call, v);
                case "famous", "chained", "twins", "mean", "count" -> counted(call, v);
                case "lend", "take", "keep", "lot", "fewest", "two" -> best(call, v);
                case "quarrel" -> quarrel(v[0], v[1], v[2], v[3], v[4]);
                case "who", "whatIs" -> guessed(call, v);
                case "lots" -> lots(v[0], v[1], v[2]);
                default -> kept(call, v);
            };
        } catch (Refused no) {
            return switch (call) {
                case "worth", "lot", "lots" -> 1000000000L - no.number;
                case "quarrel", "mean" -> 4000000000000000000L - no.number;
                default -> no.number;
            };
        }
    }

    private int town() {
        String text = letters;
        letters = "";
        String statement = "p[pbmkdg][0-9];|[lk][0-9][0-9];|b[0-9];|f[0-9][0-9][0-9];|m[0-9][0-9];";
        if (!text.matches("(?s)(" + statement + ")+")) {
            // The longest beginning that some town goes on from.
            String open = "(" + statement + ")*(p([pbmkdg][0-9]?)?|[lkm][0-9]{0,2}|b[0-9]?|f[0-9]{0,3})?";
            int good = text.length();
            while (good > 0 && !text.substring(0, good).matches(open)) {
                good--;
            }
            return -1000 - good;
        }
        World world = now.copy();
        int at = 0;
        int count = 0;
        for (String one : text.split(";")) {
            if (!comes(world, one)) {
                return -2000 - at;
            }
            at += one.length() + 1;
            count++;
        }
        now = world;
        return count;
    }

    private static boolean comes(World world, String told) {
        int size = world.all.size();
        int a = told.charAt(1) - '0';
        int b = told.length() > 2 ? told.charAt(2) - '0' : 0;
        switch (told.charAt(0)) {
            case 'p':
                One one = new One();
                one.kind = "pbmkdg".indexOf(told.charAt(1));
                one.figure = b;
                one.knows = 1 << size;
                one.wears = size;
                return size < 8 && world.all.add(one);
            case 'l':
                return a < size && b < size && world.lend(a, b);
            case 'b':
                return a < size && world.all.get(a).lent > 0 && world.back(a) >= 0;
            case 'k':
                if (a < size && b < size) {
                    world.all.get(a).knows ^= 1 << b;
                }
                return a < size && b < size;
            case 'f':
                if (a < size) {
                    world.all.get(a).fame = Integer.parseInt(told.substring(2));
                }
                return a < size;
            default:
                int n = 10 * a + b;
                return n >= 1 && n <= 60 && world.month + n <= 999 && world.pass(n) != null;
        }
    }

    private int ofOne(String call, int[] v) {
        there(v[0]);
        what(v[1], 4);
        One one = now.all.get(v[0]);
        int[] answers = call.equals("person") ? new int[] {one.kind, one.figure, one.knows, one.wears}
            : new int[] {one.fame, one.scars, one.lent, now.wearer(v[0])};
        return answers[v[1]];
    }

    private int lentNow() {
        return now.sum(one -> one.lent > 0 ? 1 : 0);
    }

    private int change(String call, int[] v) {
        switch (call) {
            case "lends":
                there(v[0], v[1]);
                want(v[0] != v[1], -1);
                want(now.lend(v[0], v[1]), -3);
                return lentNow();
            case "back":
                there(v[0]);
                want(now.all.get(v[0]).lent > 0, -3);
                return now.back(v[0]);
            case "learns":
                there(v[0], v[1]);
                now.all.get(v[0]).knows ^= 1 << v[1];
                return now.all.get(v[0]).knows >> v[1] & 1;
            case "becomes":
                there(v[0]);
                what(v[1], 2);
                within(v[2], 0, 99);
                One face = now.all.get(v[0]);
                int was = v[1] == 0 ? face.fame : face.scars;
                face.fame = v[1] == 0 ? v[2] : face.fame;
                face.scars = v[1] == 1 ? v[2] : face.scars;
                return was;
            case "turn":
                there(v[0]);
                what(v[1], 6);
                within(v[2], 0, 9);
                One one = now.all.get(v[0]);
                int had = 10 * one.kind + one.figure;
                one.kind = v[1];
                one.figure = v[2];
                return had;
            default:
                within(v[0], 1, 60);
                want(now.month + v[0] <= 999, -6);
                now.pass(v[0]);
                return lentNow();
        }
    }

    private int later(String call, int[] v) {
        if (call.equals("first")) {
            what(v[0], 3);
            for (int n = 0; n <= 60; n++) {
                World world = now.then(n);
                for (int i = 0; i < world.all.size() && v[0] < 2; i++) {
                    if (world.all.get(i).fame == 0) {
                        return v[0] == 0 ? i : n;
                    }
                }
                if (v[0] == 2 && world.sum(one -> one.wears == world.all.indexOf(one) ? 0 : 1) == 0) {
                    return n;
                }
            }
            return -9;
        }
        there(v[0]);
        within(v[1], 0, 60);
        if (call.equals("wornThen")) {
            return now.then(v[1]).all.get(v[0]).wears;
        }
        what(v[2], 4);
        World world = now.then(v[1]);
        One one = world.all.get(v[0]);
        return new int[] {one.fame, one.scars, one.lent, world.wearer(v[0])}[v[2]];
    }

    private int takes(int a, int b) {
        int face = now.all.get(b).wears;
        return face != 9 && (now.all.get(a).knows & 1 << face) != 0 ? face : 9;
    }

    private int seen(String call, int[] v) {
        if (call.equals("deceived")) {
            there(v[0]);
            what(v[1], 2);
            int count = 0;
            for (int i = 0; i < now.all.size(); i++) {
                int taken = i == v[0] ? 9 : takes(i, v[0]);
                count += taken != 9 && (v[1] == 1 || taken != v[0]) ? 1 : 0;
            }
            return count;
        }
        there(v[0], v[1]);
        want(v[0] != v[1], -1);
        if (call.equals("meets")) {
            return takes(v[0], v[1]);
        }
        for (int i = 0; i < now.all.size(); i++) {
            if (i != v[0] && i != v[1] && takes(v[0], i) == v[1]) {
                return i;
            }
        }
        return -9;
    }

    private long counted(String call, int[] v) {
        int size = now.all.size();
        int plain = now.bits(one -> one.wears == 9 ? 1 << now.all.indexOf(one) : 0);
        switch (call) {
            case "famous":
                what(v[0], 2);
                int best = -9;
                for (int i = size - 1; i >= 0; i--) {
                    int mark = v[0] == 0 ? now.all.get(i).fame : now.all.get(i).scars;
                    int most = best < 0 ? -1 : v[0] == 0 ? now.all.get(best).fame : now.all.get(best).scars;
                    best = mark >= most ? i : best;
                }
                return best;
            case "chained":
                what(v[0], 3);
                int chained = now.sum(one -> one.wears != 9 && one.wears != now.all.indexOf(one) ? 1 : 0);
                return new int[] {chained, plain, now.bits(one -> one.wears == 9 ? 0 : 1 << one.wears)}[v[0]];
            case "twins":
                what(v[0], 2);
                List<Integer> twos = new ArrayList<>();
                for (int i = 0; i < 8 * 8; i++) {
                    int a = i / 8;
                    int b = i % 8;
                    if (a < b && b < size && now.all.get(a).fame == now.all.get(b).fame
                        && now.all.get(a).scars == now.all.get(b).scars) {
                        twos.add(10 * a + b);
                    }
                }
                return v[0] == 0 ? twos.size() : twos.isEmpty() ? -9 : twos.get(0);
            case "mean":
                what(v[0], 2);
                return size == 0 ? v[0] : part(now.sum(one -> one.fame), size, v[0]);
            default:
                if (v[0] >= 11 && v[0] <= 16) {
                    return refused[v[0] - 10];
                }
                int[] counts = {size, now.month, lentNow(), now.sum(one -> one.fame), now.sum(one -> one.scars), plain,
                    told.size(), letters.length()};
                return v[0] >= 0 && v[0] < 8 ? counts[v[0]] : -9;
        }
    }

    private static long part(long above, long below, int part) {
        long shared = below;
        while (above % shared != 0 || below % shared != 0) {
            shared--;
        }
        return (part == 0 ? above : below) / shared;
    }

    private int best(String call, int[] v) {
        switch (call) {
            case "lend":
                there(v[0]);
                within(v[1], 0, 24);
                what(v[2], 2);
                return partner(v[0], v[1], true, v[2] == 0 ? 1 : -1);
            case "take":
                there(v[0]);
                within(v[1], 0, 24);
                return partner(v[0], v[1], false, 1);
            case "keep":
                within(v[0], 0, 24);
                int most = now.then(v[0]).sum(One::worth);
                int best = -9;
                for (int i = 0; i < now.all.size(); i++) {
                    if (now.all.get(i).lent > 0) {
                        World world = now.copy();
                        world.back(i);
                        int worth = world.pass(v[0]).sum(One::worth);
                        best = worth > most ? i : best;
                        most = Math.max(worth, most);
                    }
                }
                return best;
            case "lot":
                what(v[0], 2);
                return lot(v[0]);
            case "fewest":
                there(v[0]);
                within(v[1], 0, 99);
                what(v[2], 2);
                return fewest(v[0], v[1], v[2]);
            default:
                there(v[0], v[1]);
                want(v[0] != v[1], -1);
                within(v[2], 0, 24);
                return two(v[0], v[1], v[2]);
        }
    }

    private int partner(int person, int n, boolean lends, int sign) {
        want(now.all.get(person).wears == person, -3);
        int most = sign * now.then(n).all.get(person).worth();
        int best = -9;
        for (int i = 0; i < now.all.size(); i++) {
            World world = now.copy();
            if (lends ? world.lend(person, i) : world.lend(i, person)) {
                int worth = sign * world.pass(n).all.get(person).worth();
                best = worth > most ? i : best;
                most = Math.max(worth, most);
            }
        }
        return best;
    }

    private int lot(int what) {
        List<Integer> free = new ArrayList<>();
        for (int i = 0; i < now.all.size(); i++) {
            if (now.all.get(i).wears == i) {
                free.add(i);
            }
        }
        int best = -1;
        int most = Integer.MIN_VALUE;
        for (int bits = 0; bits < 1 << free.size() / 2; bits++) {
            World world = now.copy();
            for (int i = 0; i + 1 < free.size(); i += 2) {
                boolean second = (bits & 1 << i / 2) != 0;
                world.lend(free.get(second ? i + 1 : i), free.get(second ? i : i + 1));
            }
            int worth = world.pass(12).sum(One::worth);
            best = worth > most ? bits : best;
            most = Math.max(worth, most);
        }
        return what == 0 ? best : most;
    }

    private int fewest(int face, int v, int what) {
        for (int lendings = 0; lendings <= 2; lendings++) {
            int lender = firstLender(now, face, v, lendings);
            if (lender != -9) {
                return what == 0 ? lendings : lendings == 0 ? -9 : lender;
            }
        }
        return -9;
    }

    private static int firstLender(World world, int face, int v, int lendings) {
        if (lendings == 0) {
            return world.then(12).all.get(face).fame >= v ? 0 : -9;
        }
        for (int a = 0; a < world.all.size(); a++) {
            for (int b = 0; b < world.all.size(); b++) {
                World next = world.copy();
                if (next.lend(a, b) && firstLender(next, face, v, lendings - 1) != -9) {
                    return a;
                }
            }
        }
        return -9;
    }

    private int two(int a, int b, int n) {
        for (int x = 0; x < 2; x++) {
            for (int y = 0; y < 2; y++) {
                boolean stays = gain(a, b, n, x, y)[0] >= gain(a, b, n, 1 - x, y)[0];
                if (stays && gain(a, b, n, x, y)[1] >= gain(a, b, n, x, 1 - y)[1]) {
                    return 10 * x + y;
                }
            }
        }
        return -9;
    }

    private int[] gain(int a, int b, int n, int x, int y) {
        World world = now.copy();
        if (x == 1) {
            world.lend(b, a);
        }
        if (y == 1) {
            world.lend(a, b);
        }
        world.pass(n);
        return new int[] {world.all.get(a).worth(), world.all.get(b).worth()};
    }

    private long quarrel(int face, int n, int t, int v, int part) {
        there(face);
        want(n >= 0 && v >= 0 && t >= 2, -4);
        want(n <= 7 && t <= 20 && v <= 99, -6);
        what(part, 2);
        long above = 0;
        long below = 1;
        for (int i = 0; i < n; i++) {
            below *= t;
        }
        for (int when = 0; when < 1 << n; when++) {
            World world = now.copy();
            long ways = 1;
            for (int i = 0; i < n; i++) {
                boolean quarrels = (when & 1 << i) != 0;
                One one = world.all.get(face);
                one.scars = Math.min(99, one.scars + (quarrels ? 3 : 0));
                ways *= quarrels ? 1 : t - 1;
                world.pass(1);
            }
            above += world.all.get(face).scars >= v ? ways : 0;
        }
        long a = above;
        long b = below;
        while (b != 0) {
            long rest = a % b;
            a = b;
            b = rest;
        }
        return (part == 0 ? above : below) / a;
    }

    private int guessed(String call, int[] v) {
        there(v[0]);
        int bits = 0;
        if (call.equals("who")) {
            for (int i = 0; i < now.all.size(); i++) {
                List<Integer> fames = new ArrayList<>();
                int fame = now.all.get(v[0]).fame;
                for (int k = 0; k < told.size(); k++) {
                    fames.add(fame);
                    fame = now.fameBy(now.all.get(i), v[0], fame);
                }
                bits |= fames.equals(told) ? 1 << i : 0;
            }
            return bits;
        }
        what(v[1], 2);
        int face = now.all.get(v[0]).wears;
        for (int way = 0; way < (v[1] == 0 ? 6 : 10) && face != 9; way++) {
            World world = now.copy();
            One one = world.all.get(v[0]);
            one.kind = v[1] == 0 ? way : one.kind;
            one.figure = v[1] == 1 ? way : one.figure;
            List<Integer> fames = new ArrayList<>();
            for (int k = 0; k < told.size(); k++) {
                fames.add(world.then(k).all.get(face).fame);
            }
            bits |= fames.equals(told) ? 1 << way : 0;
        }
        return bits;
    }

    private int lots(int n, int z, int what) {
        within(n, 1, 20);
        what(what, 2);
        int size = now.all.size();
        want(size > 0, -3);
        int seed = z;
        int sum = 0;
        for (int i = 0; i < n; i++) {
            World world = now.copy();
            int[] drawn = new int[8];
            for (int k = 0; k < 8; k++) {
                seed = seed * 1664525 + 1013904223;
                drawn[k] = (seed >>> 8 & 0x7fffff) % size;
            }
            for (int k = 0; k < 8; k += 2) {
                world.lend(drawn[k], drawn[k + 1]);
            }
            world.pass(6);
            sum += what == 0 ? world.sum(One::worth) : world.sum(one -> one.scars);
        }
        return sum;
    }

    private int kept(String call, int[] v) {
        switch (call) {
            case "row":
                within(v[0], 0, 99);
                want(told.size() < 16, -6);
                told.add(v[0]);
                return told.size();
            case "judge":
                List<Integer> row = told;
                told = new ArrayList<>();
                for (int i = 0; i < row.size(); i++) {
                    if (i >= now.all.size() || now.all.get(i).scars != row.get(i)) {
                        return i;
                    }
                }
                return -9;
            case "clear":
                int had = told.size();
                told = new ArrayList<>();
                return had;
            case "image":
                kept = now.copy();
                return now.month;
            default:
                want(kept != null, -3);
                now = kept.copy();
                return now.month;
        }
    }

    private static long ask(EachLendsHisFace x, String call, int[] v) {
        return switch (call) {
            case "letter" -> x.letter(v[0]);
            case "town" -> x.town();
            case "person" -> x.person(v[0], v[1]);
            case "face" -> x.face(v[0], v[1]);
            case "worth" -> x.worth(v[0]);
            case "lends" -> x.lends(v[0], v[1]);
            case "back" -> x.back(v[0]);
            case "learns" -> x.learns(v[0], v[1]);
            case "becomes" -> x.becomes(v[0], v[1], v[2]);
            case "turn" -> x.turn(v[0], v[1], v[2]);
            case "months" -> x.months(v[0]);
            case "faceThen" -> x.faceThen(v[0], v[1], v[2]);
            case "wornThen" -> x.wornThen(v[0], v[1]);
            case "first" -> x.first(v[0]);
            case "meets" -> x.meets(v[0], v[1]);
            case "deceived" -> x.deceived(v[0], v[1]);
            case "famous" -> x.famous(v[0]);
            case "lend" -> x.lend(v[0], v[1], v[2]);
            case "take" -> x.take(v[0], v[1]);
            case "keep" -> x.keep(v[0]);
            case "chained" -> x.chained(v[0]);
            case "lot" -> x.lot(v[0]);
            case "fewest" -> x.fewest(v[0], v[1], v[2]);
            case "who" -> x.who(v[0]);
            case "widow" -> x.widow(v[0], v[1]);
            case "twins" -> x.twins(v[0]);
            case "two" -> x.two(v[0], v[1], v[2]);
            case "quarrel" -> x.quarrel(v[0], v[1], v[2], v[3], v[4]);
            case "mean" -> x.mean(v[0]);
            case "whatIs" -> x.whatIs(v[0], v[1]);
            case "row" -> x.row(v[0]);
            case "judge" -> x.judge();
            case "clear" -> x.clear();
            case "lots" -> x.lots(v[0], v[1], v[2]);
            case "image" -> x.image();
            case "on" -> x.on();
            default -> x.count(v[0]);
        };
    }

    /** Mostly numbers that fit the call, sometimes their neighbours, sometimes the ends of all ints. */
    private static int[] arguments(String call, Random random) {
        int one = random.nextInt(8);
        int other = random.nextInt(8);
        int what = random.nextInt(3);
        int[] v = switch (call) {
            case "becomes" -> new int[] {one, what, random.nextInt(3) == 0 ? 97 + random.nextInt(4) : random.nextInt(100), 0, 0};
            case "turn" -> new int[] {one, random.nextInt(7), random.nextInt(11), 0, 0};
            case "months" -> new int[] {random.nextInt(4) == 0 ? random.nextInt(62) : random.nextInt(5), 0, 0, 0, 0};
            case "faceThen" -> new int[] {one, random.nextInt(62), random.nextInt(5), 0, 0};
            case "wornThen" -> new int[] {one, random.nextInt(20), 0, 0, 0};
            case "lend", "take" -> new int[] {one, random.nextInt(26), what, 0, 0};
            case "keep" -> new int[] {random.nextInt(26), 0, 0, 0, 0};
            case "fewest" -> new int[] {one, random.nextInt(101), what, 0, 0};
            case "two" -> new int[] {one, other, random.nextInt(26), 0, 0};
            case "quarrel" -> new int[] {one, random.nextInt(9), 1 + random.nextInt(21), random.nextInt(30), what};
            case "row" -> new int[] {random.nextInt(101), 0, 0, 0, 0};
            case "lots" -> new int[] {random.nextInt(22), random.nextInt(), what, 0, 0};
            case "count" -> new int[] {random.nextInt(18), 0, 0, 0, 0};
            case "person", "face" -> new int[] {one, random.nextInt(5), 0, 0, 0};
            case "deceived", "whatIs" -> new int[] {one, what, 0, 0, 0};
            case "first", "famous", "chained", "lot", "twins", "mean" -> new int[] {random.nextInt(4), 0, 0, 0, 0};
            default -> new int[] {one, other, 0, 0, 0};
        };
        if (random.nextInt(12) == 0) {
            int[] ends = {-1, Integer.MIN_VALUE, Integer.MAX_VALUE, 8, 9, 100, 256};
            v[random.nextInt(v.length)] = ends[random.nextInt(ends.length)];
        }
        return v;
    }

    private static String statement(Random random) {
        int a = random.nextInt(6);
        int b = random.nextInt(6);
        return switch (random.nextInt(9)) {
            case 0, 1, 2, 3 -> "p" + "pbmkdg".charAt(a) + random.nextInt(10) + ";";
            case 4 -> "l" + a + b + ";";
            case 5 -> random.nextInt(3) == 0 ? "b" + a + ";" : "";
            case 6 -> "k" + a + b + ";";
            case 7 -> "f" + a + random.nextInt(10) + random.nextInt(10) + ";";
            default -> "m0" + random.nextInt(10) + ";";
        };
    }

    private static String someLetters(Random random, boolean newTown) {
        StringBuilder text = new StringBuilder();
        for (int i = newTown ? 2 + random.nextInt(6) : 0; i > 0; i--) {
            text.append('p').append("pbmkdg".charAt(random.nextInt(6))).append(random.nextInt(10)).append(';');
        }
        for (int i = random.nextInt(newTown ? 9 : 4); i > 0; i--) {
            text.append(statement(random));
        }
        if (random.nextInt(8) == 0 && text.length() > 0) {
            text.setCharAt(random.nextInt(text.length()), "plbkfm;09 x".charAt(random.nextInt(11)));
        }
        if (random.nextInt(10) == 0 && text.length() > 0) {
            text.setLength(random.nextInt(text.length()));
        }
        return text.toString();
    }

    private boolean agrees(EachLendsHisFace x, int run, String call, int[] v) {
        long want = answer(call, v);
        long got = ask(x, call, v);
        if (got != want) {
            System.out.println("run " + run + ": " + call + java.util.Arrays.toString(v) + " answered " + got + ", due is " + want);
        }
        return got == want;
    }

    private boolean agreesOnTown(EachLendsHisFace x, int run, String text) {
        boolean all = true;
        for (char c : text.toCharArray()) {
            all &= agrees(x, run, "letter", new int[] {c});
        }
        return all & agrees(x, run, "town", new int[0]);
    }

    /** A row that is likely to be so: what some face's fame, or what the scars, will be. */
    private boolean agreesOnRow(EachLendsHisFace x, int run, Random random) {
        boolean all = agrees(x, run, "clear", new int[0]);
        if (now.all.isEmpty()) {
            return all;
        }
        World world = now.copy();
        int one = random.nextInt(world.all.size());
        if (random.nextInt(3) == 0) {
            for (int i = 0; i < random.nextInt(10); i++) {
                int right = i < world.all.size() ? world.all.get(i).scars : 0;
                all &= agrees(x, run, "row", new int[] {right});
            }
            return all & agrees(x, run, "judge", new int[0]);
        }
        int face = Math.min(world.all.get(one).wears, world.all.size() - 1);
        world.all.get(one).kind = random.nextInt(6);
        int length = 1 + random.nextInt(16);
        for (int i = 0; i < length; i++) {
            all &= agrees(x, run, "row", new int[] {world.then(i).all.get(face).fame});
        }
        return all & agrees(x, run, "who", new int[] {face}) & agrees(x, run, "whatIs", new int[] {one, 0})
            & agrees(x, run, "whatIs", new int[] {one, 1});
    }

    private static boolean runAgrees(int run) {
        Random random = new Random(run);
        ModelTest model = new ModelTest();
        EachLendsHisFace x = new EachLendsHisFace();
        boolean all = model.agreesOnTown(x, run, someLetters(random, true));
        for (int i = 0; i < CALLS_OF_A_RUN && all; i++) {
            int dice = random.nextInt(40);
            if (dice == 0) {
                all = model.agreesOnTown(x, run, someLetters(random, model.now.all.isEmpty()));
            } else if (dice <= 2) {
                all = model.agreesOnRow(x, run, random);
            } else {
                String call = CALLS[random.nextInt(CALLS.length)];
                all = model.agrees(x, run, call, arguments(call, random));
            }
        }
        return all;
    }

    public static void main(String[] args) {
        int passed = 0;
        int failed = 0;
        for (int run = 0; run < RUNS; run++) {
            if (runAgrees(run)) {
                passed++;
            } else {
                failed++;
            }
        }
        System.out.println(passed + " passed, " + failed + " failed");
        if (failed != 0) {
            System.exit(1);
        }
    }
}
