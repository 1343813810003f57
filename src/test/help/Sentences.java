import java.io.IOException;
import java.nio.file.Files;
import java.nio.file.Path;

/** What the tests of boundaries share: each names its promise and the document's sentence that it is of. */
abstract class Sentences {
    static final long NO = Long.MIN_VALUE;
    static final int MAX = Integer.MAX_VALUE, MIN = Integer.MIN_VALUE;
    private static final int PROMISES = 34;

    private static final String document = document();
    private static final int[] sentencesOf = new int[PROMISES + 1];
    private static String sentence = "";
    private static int checksOfSentence;
    private static int sentences;
    private static int checks;
    private static int wrong;

    private static String document() {
        try {
            return oneBlanks(Files.readString(Path.of("../shared/DOC.md")));
        } catch (IOException e) {
            System.out.println("the document is not there: that its sentences are is not looked at");
            return "";
        }
    }

    private static String oneBlanks(String text) {
        return text.replaceAll("\\s+", " ");
    }

    /** What is looked at from here on is of this sentence of the document. */
    static void sentence(int promise, String words) {
        endSentence();
        sentence = "promise " + promise + ", \"" + words + "\"";
        sentencesOf[promise]++;
        sentences++;
        if (!document.isEmpty() && !document.contains(oneBlanks(words))) {
            fail("does not stand in the document");
        }
    }

    /** A boundary has two sides: what looks at one alone is no test of it. */
    private static void endSentence() {
        if (!sentence.isEmpty() && checksOfSentence < 2) {
            fail("has no two sides");
        }
        checksOfSentence = 0;
    }

    static void due(String what, long got, long want) {
        checks++;
        checksOfSentence++;
        if (got != want) {
            fail(what + " answered " + got + ", due is " + want);
        }
    }

    static void fail(String what) {
        wrong++;
        System.out.println(sentence + ": " + what);
    }

    /** The end of a test, in which there must have been a sentence of each of these promises. */
    static void end(int firstPromise, int lastPromise) {
        endSentence();
        for (int p = firstPromise; p <= lastPromise; p++) {
            if (sentencesOf[p] == 0) {
                fail("promise " + p + " has no sentence");
            }
        }
        System.out.println("boundaries, promises " + firstPromise + " to " + lastPromise + ": " + sentences
            + " sentences, " + checks + " checks, " + wrong + " not as due");
        if (wrong != 0) {
            System.exit(1);
        }
    }

    // ---- beasts, herds and fences to look at

    static final int BEAST = 0, HORNED = 1, CALF = 2, LAME = 3, PROUD = 4, HIDDEN = 5, TOLD = 6;

    /** One sort more, of which the herd has n. */
    static int sorts(FeetHorns x, int kind, int v, int[] feetHornsTails, int toll, int n) {
        int s = x.sort(kind, v, feetHornsTails[0], feetHornsTails[1], feetHornsTails[2], toll);
        x.herd(s, 0, n);
        return s;
    }

    static int[] shows(int feet, int horns, int tails) {
        return new int[] {feet, horns, tails};
    }

    /** A new object with sorts of BEASTS that show a foot and owe nothing. */
    static FeetHorns ofOneFoot(int sorts) {
        FeetHorns x = new FeetHorns();
        for (int s = 0; s < sorts; s++) {
            x.sort(BEAST, 0, 1, 0, 0, 0);
        }
        return x;
    }

    static void feedAll(FeetHorns x, String text) {
        for (int i = 0; i < text.length(); i++) {
            x.feed(text.charAt(i));
        }
    }

    static int fence(FeetHorns x, String text) {
        feedAll(x, text);
        return x.fence();
    }

    /** What fence() answers to a text on a new object: 0, or -10 less the fault. */
    static int fence(String text) {
        return fence(new FeetHorns(), text);
    }

    static String times(int n, String what, String between) {
        StringBuilder out = new StringBuilder();
        for (int i = 0; i < n; i++) {
            out.append(i == 0 ? "" : between).append(what);
        }
        return out.toString();
    }

    static void tellAll(FeetHorns x, int feet, int horns, int tails) {
        x.tell(0, feet);
        x.tell(1, horns);
        x.tell(2, tails);
    }

    static void dueShows(String what, FeetHorns x, int sort, int feet, int horns, int tails) {
        due(what + ": feet", x.of(sort, 10), feet);
        due(what + ": horns", x.of(sort, 11), horns);
        due(what + ": tails", x.of(sort, 12), tails);
    }
}
