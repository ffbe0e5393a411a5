import java.io.IOException;
import java.nio.file.Files;
import java.nio.file.Path;
import java.util.Set;
import java.util.TreeSet;

/**
 * What the tests of boundary cases share. An edge is one test: the words of the document that name the boundary, and
 * calls with the answers that are due there. The words are looked up, so that a test can not outlive its sentence.
 */
final class Edges {
    static final int FAR = 1000000000;
    static final long FARTHEST = 4000000000000000000L;
    static final int LEAST = Integer.MIN_VALUE;
    static final int MOST = Integer.MAX_VALUE;
    private static final Path DOCUMENT = Path.of("../shared/DOC.md");

    private static final Set<String> names = new TreeSet<>();
    private static String document = "";
    private static String edge = "";
    private static int asked = 0;
    private static int wrong = 0;
    private static int passed = 0;
    private static int failed = 0;

    private Edges() {
    }

    interface Call {
        long of(EachLendsHisFace x);
    }

    /** One test: the words of the document, what of them is tested, and the test. */
    static void edge(String words, String what, Runnable test) {
        edge = "\"" + words + "\", " + what;
        asked = 0;
        wrong = 0;
        if (!isInDocument(words)) {
            tellWrong("these words are not in the document");
        }
        if (!names.add(edge)) {
            tellWrong("there are two tests of this name");
        }
        try {
            test.run();
        } catch (RuntimeException thrown) {
            tellWrong("threw " + thrown);
        }
        if (asked == 0) {
            tellWrong("nothing was asked");
        }
        if (wrong == 0) {
            passed++;
        } else {
            failed++;
        }
    }

    static void due(String call, long got, long want) {
        asked++;
        if (got != want) {
            tellWrong(call + " answered " + got + ", due is " + want);
        }
    }

    static void same(String call, String got, String want) {
        asked++;
        if (!got.equals(want)) {
            tellWrong(call + ": " + got + ", due is " + want);
        }
    }

    private static void tellWrong(String text) {
        wrong++;
        System.out.println(edge + ": " + text);
    }

    static void end() {
        System.out.println(passed + " edges passed, " + failed + " failed");
        if (failed != 0) {
            System.exit(1);
        }
    }

    /** Where there is no document to look into, the words are taken as they are, and that is said. */
    private static boolean isInDocument(String words) {
        if (document.isEmpty()) {
            try {
                document = inOneLine(Files.readString(DOCUMENT));
            } catch (IOException missing) {
                System.out.println("no document at " + DOCUMENT + ": " + missing);
                return true;
            }
        }
        return document.contains(inOneLine(words));
    }

    private static String inOneLine(String text) {
        return text.replaceAll("\\s+", " ");
    }

    static int tell(EachLendsHisFace x, String letters) {
        for (char c : letters.toCharArray()) {
            x.letter(c);
        }
        return x.town();
    }

    /** A new object with that town; an empty text tells none. */
    static EachLendsHisFace townOf(String letters) {
        EachLendsHisFace x = new EachLendsHisFace();
        if (!letters.isEmpty()) {
            int answer = tell(x, letters);
            if (answer < 0) {
                tellWrong("the town " + letters + " has fault " + answer);
            }
        }
        return x;
    }

    /** The months of a town go by in pieces that a telling can hold. */
    static EachLendsHisFace agedTownOf(String letters, int months) {
        EachLendsHisFace x = townOf(letters);
        for (int left = months; left > 0; left -= 60) {
            x.months(Math.min(left, 60));
        }
        return x;
    }

    static EachLendsHisFace withRow(EachLendsHisFace x, int... numbers) {
        x.clear();
        for (int v : numbers) {
            x.row(v);
        }
        return x;
    }

    /** All that can be read of a town, but how many were refused. */
    static String stateOf(EachLendsHisFace x) {
        StringBuilder text = new StringBuilder();
        for (int what = 0; what <= 7; what++) {
            text.append(x.count(what)).append(what < 7 ? "," : " |");
        }
        for (int i = 0; i < x.count(0); i++) {
            for (int what = 0; what < 4; what++) {
                text.append(' ').append(x.person(i, what));
            }
            for (int what = 0; what < 4; what++) {
                text.append(' ').append(x.face(i, what));
            }
            text.append(';');
        }
        return text.toString();
    }

    static String refusalsOf(EachLendsHisFace x) {
        StringBuilder text = new StringBuilder();
        for (int what = 11; what <= 16; what++) {
            text.append(x.count(what)).append(' ');
        }
        return text.toString();
    }

    /** The call is refused with that number, told as it is due, is counted once there, and changes nothing else. */
    static void refused(EachLendsHisFace x, String call, Call asks, int number, long told) {
        String stateBefore = stateOf(x);
        int[] counts = new int[7];
        for (int i = 1; i <= 6; i++) {
            counts[i] = x.count(10 + i);
        }
        due(call, asks.of(x), told);
        for (int i = 1; i <= 6; i++) {
            due("count(" + (10 + i) + ") behind " + call, x.count(10 + i), counts[i] + (i == -number ? 1 : 0));
        }
        same("state behind " + call, stateOf(x), stateBefore);
    }

    static void refused(EachLendsHisFace x, String call, Call asks, int number) {
        refused(x, call, asks, number, number);
    }

    static void refusedFar(EachLendsHisFace x, String call, Call asks, int number) {
        refused(x, call, asks, number, FAR - number);
    }

    static void refusedFarthest(EachLendsHisFace x, String call, Call asks, int number) {
        refused(x, call, asks, number, FARTHEST - number);
    }

    /** The call answers so, and no refusal is counted. */
    static void taken(EachLendsHisFace x, String call, Call asks, long want) {
        String before = refusalsOf(x);
        due(call, asks.of(x), want);
        same("refusals behind " + call, refusalsOf(x), before);
    }
}
