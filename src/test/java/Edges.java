import java.util.ArrayList;
import java.util.List;
import java.util.Map;
import java.util.TreeMap;
import java.util.function.Supplier;

/** What the tests of the document's sentences share: each answer is asked under one of them. */
abstract class Edges {
    static final long LOW = -1000000000000000000L;
    static final long BEYOND = LOW - 1;
    static final long NONE = LOW - 2;
    static final long KIND = LOW - 3;
    static final long FULL = LOW - 4;
    static final long SIZE = LOW - 5;
    static final int MIN = Integer.MIN_VALUE;
    static final int MAX = Integer.MAX_VALUE;
    /** The section of the document that stands ahead of the promises. */
    static final int TERMS = 0;

    /** Twelve points whose triangles are all GOOD and no two LIKE by T 0. */
    static final int[] SCATTERED = {
        3, 17, 190, 8, 44, 151, 121, 96, 77, 33, 9, 188, 163, 171, 58, 92, 139, 29, 101, 141, 28, 60, 180, 111};

    /** The sentences that have a test, by promise. */
    static final Map<Integer, List<String>> TESTED = new TreeMap<>();

    static int wrong = 0;
    static int asked = 0;
    private static int promise = TERMS;
    private static String words = "";
    private static int askedBefore = 0;

    /** An act on an object. */
    interface Act {
        long on(FallingLight x);
    }

    /** An act with one number left open. */
    interface With {
        long on(FallingLight x, int v);
    }

    /** What is asked from here on belongs to this sentence, told in the document's own words. */
    static void sentence(int ofPromise, String ofDocument) {
        endSentence();
        promise = ofPromise;
        words = ofDocument;
        List<String> ofPromiseTested = TESTED.computeIfAbsent(promise, k -> new ArrayList<>());
        if (!ofPromiseTested.contains(words)) {
            ofPromiseTested.add(words);
        }
    }

    /** A sentence under which nothing was asked has no test. */
    static void endSentence() {
        if (!words.isEmpty() && asked == askedBefore) {
            fault("nothing is asked");
        }
        askedBefore = asked;
    }

    static void fault(String text) {
        wrong++;
        System.out.println("promise " + promise + ", '" + words + "': " + text);
    }

    static void is(String what, long want, long got) {
        asked++;
        if (want != got) {
            fault(what + " answered " + got + ", due is " + want);
        }
    }

    /** Above and below the line. */
    static void isFraction(String what, long above, long below, long gotAbove, long gotBelow) {
        is(what + ", above", above, gotAbove);
        is(what + ", below", below, gotBelow);
    }

    /** Each of the acts answers the finding, and all of them together change nothing but what found() tells. */
    static void refused(String what, long finding, Act... acts) {
        refusedIn(World::rich, what, finding, acts);
    }

    static void refusedIn(Supplier<FallingLight> world, String what, long finding, Act... acts) {
        FallingLight x = world.get();
        FallingLight twin = world.get();
        for (int k = 0; k < acts.length; k++) {
            is(what + " (" + k + ")", finding, acts[k].on(x));
        }
        for (int k = 1; k <= 5; k++) {
            long more = LOW - k == finding ? acts.length : 0;
            is(what + ": found(" + k + ")", twin.found(k) + more, x.found(k));
        }
        same(what, x, twin);
    }

    /** Two objects tell the same of all that can be asked, but for found(). */
    static void same(String what, FallingLight x, FallingLight twin) {
        List<String> got = World.picture(x);
        List<String> due = World.picture(twin);
        asked++;
        if (got.size() != due.size()) {
            fault(what + " changed how much can be asked");
        }
        for (int k = 0; k < got.size() && k < due.size(); k++) {
            if (!got.get(k).equals(due.get(k))) {
                fault(what + " changed " + got.get(k) + ", due is " + due.get(k));
                return;
            }
        }
    }

    /** Numbers outside of from .. to, next to it and far, and some that a narrower type would take for inside. */
    static void outside(String what, int from, int to, With act) {
        int[] strange = {from - 1, to + 1, MIN, MAX, MIN + from, from + 256, to + 65536, to - 65536};
        Act[] acts = new Act[strange.length];
        for (int k = 0; k < strange.length; k++) {
            int v = strange[k];
            acts[k] = x -> act.on(x, v);
        }
        refused(what, BEYOND, acts);
    }

    static void stars(FallingLight x, int... places) {
        for (int k = 0; k + 1 < places.length; k += 2) {
            x.star(places[k], places[k + 1]);
        }
    }

    static void spots(FallingLight x, int... places) {
        for (int k = 0; k + 1 < places.length; k += 2) {
            x.spot(places[k], places[k + 1]);
        }
    }

    static void tape(FallingLight x, int... numbers) {
        for (int v : numbers) {
            x.tell(v);
        }
    }

    static void row(FallingLight x, int r, int... places) {
        x.row(r, places.length);
        for (int k = 0; k < places.length; k++) {
            x.put(r, k, places[k]);
        }
    }

    static long sight(FallingLight x, int meteor, int kind, int station, int... ways) {
        tape(x, ways);
        return x.sight(meteor, kind, station);
    }
}
