import java.io.IOException;
import java.nio.charset.StandardCharsets;
import java.nio.file.Files;
import java.nio.file.Path;

/**
 * Tests of boundaries, each of one sentence of the document: of(promise, sentence) begins one, and it is counted by
 * itself. A sentence that the document doesn't have fails.
 */
final class Boundary {
    interface Ask {
        long of(HeadServo x);
    }

    interface AskBy {
        long of(HeadServo x, int value);
    }

    interface Deed {
        void on(HeadServo x);
    }

    private static final Path DOCUMENT = Path.of("../shared/DOC.md");
    private static final int PROMISES = 57;

    private final String document;
    private final String[] busy = new String[Trace.WAYS];
    private String told = "";
    private boolean begun;
    private boolean right;
    private int passed;
    private int failed;

    Boundary() {
        document = readDocument();
        for (int way = 0; way < Trace.WAYS; way++) busy[way] = traced(Heads::busy, x -> 0, 0, way);
    }

    /** Null where there is no document beside the project: the calls are tested there even so. */
    private static String readDocument() {
        try {
            return bare(Files.readString(DOCUMENT, StandardCharsets.UTF_8));
        } catch (IOException e) {
            System.out.println(DOCUMENT + " can't be read: sentences aren't compared with it");
            return null;
        }
    }

    private static String bare(String text) {
        return text.replaceAll("\\s+", " ");
    }

    static long n(boolean so) {
        return so ? 1 : 0;
    }

    /** Begins the test of a sentence that belongs to a promise (of the Terms: one by which it can be seen). */
    void of(int promise, String sentence) {
        close();
        begun = true;
        right = true;
        told = "promise " + promise + ": " + sentence;
        if (promise < 1 || promise > PROMISES) miss("there is no such promise");
        if (document != null && !document.contains(bare(sentence))) miss("the document has no such sentence");
        if (System.getProperty("sentences") != null) System.out.println("sentence|" + promise + "|" + sentence);
    }

    private void close() {
        if (begun && right) passed++;
        if (begun && !right) failed++;
        begun = false;
    }

    private void miss(String what) {
        if (right) System.out.println("FAILED: " + told);
        right = false;
        System.out.println("    " + what);
    }

    void due(String call, long got, long want) {
        if (!begun) throw new IllegalStateException("no sentence is told for " + call);
        if (got != want) miss(call + " answered " + got + ", due is " + want);
    }

    void due(String call, boolean got, boolean want) {
        due(call, n(got), n(want));
    }

    /** The answers of one call for values in a row. */
    void row(String call, HeadServo x, AskBy ask, int from, long... want) {
        for (int i = 0; i < want.length; i++) due(call + " of " + (from + i), ask.of(x, from + i), want[i]);
    }

    /** A refused call: what it answers, and that behind it all is as it would be without it. */
    void refused(String call, Deed before, Ask ask, long want) {
        for (int way = 0; way < Trace.WAYS; way++) {
            HeadServo x = new HeadServo();
            before.on(x);
            due(call, ask.of(x), want);
            same(call, Trace.of(x, way), traced(before, y -> 0, 0, way));
        }
    }

    /** The same on an object that has a little of all. */
    void refused(String call, Ask ask, long want) {
        for (int way = 0; way < Trace.WAYS; way++) same(call, traced(Heads::busy, ask, want, way), busy[way]);
    }

    /** A call that is refused below low and above high. */
    void outside(String call, AskBy ask, int low, int high, long want) {
        for (int value : new int[] {low - 1, high + 1, Integer.MIN_VALUE, Integer.MAX_VALUE}) {
            refused(call + " of " + value, x -> ask.of(x, value), want);
        }
    }

    /** A call that only tells: behind it all is as it would be without it. */
    void quiet(String call, Ask ask) {
        HeadServo x = new HeadServo();
        Heads.busy(x);
        refused(call, ask, ask.of(x));
    }

    /** That two objects that were used otherwise are the same in what they tell. */
    void alike(String call, Deed one, Deed other) {
        for (int way = 0; way < Trace.WAYS; way++) {
            same(call, traced(one, x -> 0, 0, way), traced(other, x -> 0, 0, way));
        }
    }

    private String traced(Deed before, Ask ask, long want, int way) {
        HeadServo x = new HeadServo();
        before.on(x);
        long got = ask.of(x);
        return (got == want ? "" : "answered " + got + ", due is " + want + "; ") + Trace.of(x, way);
    }

    private void same(String call, String got, String want) {
        if (got.equals(want)) return;
        String[] g = got.split("; ");
        String[] w = want.split("; ");
        int i = 0;
        while (i < g.length && i < w.length && g[i].equals(w[i])) i++;
        miss("behind " + call + " it is: " + (i < g.length ? g[i] : "no more") + ", due is: " + (i < w.length ? w[i] : "no more"));
    }

    /** The last line tells .ci/run how many tests there were. */
    void end() {
        close();
        System.out.println(passed + " passed, " + failed + " failed");
        if (failed != 0) System.exit(1);
    }
}
