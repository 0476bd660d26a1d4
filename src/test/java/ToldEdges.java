/** Boundary cases of promises 30 to 32: what is told. */
final class ToldEdges extends Edges {
    private ToldEdges() {
    }

    static void all() {
        checks();
        checkOfAll();
        counts();
        founds();
    }

    private static void checks() {
        sentence(30, "The tape's numbers (it is empty then) are MATCHES of SPOTS 0, 1, .. in turn (-1: none):");
        FallingLight x = World.rich();
        is("as due", 0, x.check());
        is("empty behind it", 0, x.count(2));
        tape(x, 9);
        is("not as due", 1, x.check());
        is("empty behind that, too", 0, x.count(2));
        tape(x, 1, 2, 3, 4, -1, 7);
        is("too many", 99, x.check());
        is("and behind that", 0, x.count(2));
        sentence(30, "0 if they are, for as many as were told;");
        is("none told", 0, x.check());
        tape(x, 1);
        is("one told", 0, x.check());
        tape(x, 1, 2, 3, 4, -1);
        is("all told", 0, x.check());
        is("none told of none", 0, new FallingLight().check());
        sentence(30, "1 and k for the first (from 0 on) that isn't;");
        int[] right = {1, 2, 3, 4, -1};
        for (int k = 0; k < 5; k++) {
            for (int v : new int[] {-2, 0, 5, MIN, MAX, right[k] + 65536, right[k] + 256}) {
                for (int n = 0; n < 5; n++) {
                    x.tell(n == k ? v : right[n]);
                }
                is(v + " at " + k, 1 + k, x.check());
            }
            FallingLight y = World.rich();
            y.check();
            for (int n = 0; n < 5; n++) {
                y.tell(n >= k ? 0 : right[n]);
            }
            is("all from " + k + " on", 1 + k, y.check());
        }
        tape(x, -1);
        is("none told of one that has a match", 1, x.check());
        tape(x, 1, 2, 3, 4, 2);
        is("the star that it votes for isn't its match", 5, x.check());
    }

    private static void checkOfAll() {
        sentence(30, "99 if more were told than there are SPOTS (and all those are).");
        FallingLight none = new FallingLight();
        tape(none, -1);
        is("one told of none", 99, none.check());
        FallingLight x = World.rich();
        x.check();
        tape(x, 1, 2, 3, 4, -1, -1);
        is("one more", 99, x.check());
        tape(x, 1, 2, 3, 4, -1, 0, 0, 0, 0);
        is("nine of five", 99, x.check());
        tape(x, 1, 2, 3, 4, 0, -1);
        is("one more, the last spot's isn't", 5, x.check());
        tape(x, 2, 2, 3, 4, -1, -1);
        is("one more, the first spot's isn't", 1, x.check());
        FallingLight y = matchedAll(8);
        tape(y, 0, 1, 2, 3, 4, 5, 6, 7, 8);
        is("nine of eight", 99, y.check());
        FallingLight z = matchedAll(9);
        tape(z, 0, 1, 2, 3, 4, 5, 6, 7, 8);
        is("nine of nine", 0, z.check());
        tape(z, 0, 1, 2, 3, 4, 5, 6, 7, 9);
        is("nine of nine, the last isn't", 9, z.check());
        FallingLight w = matchedAll(10);
        tape(w, 0, 1, 2, 3, 4, 5, 6, 7, 8);
        is("nine of ten", 0, w.check());
        is("check finds nothing", 0, w.found(1) + w.found(2) + w.found(3) + w.found(4) + w.found(5));
    }

    /** Spots at the places of the first stars. */
    private static FallingLight matchedAll(int spots) {
        FallingLight x = new FallingLight();
        stars(x, SCATTERED);
        for (int k = 0; k < spots; k++) {
            x.spot(SCATTERED[2 * k], SCATTERED[2 * k + 1]);
        }
        x.near(0);
        return x;
    }

    private static void counts() {
        sentence(31, "BEYOND: another what.");
        outside("what", 0, 8, (x, v) -> x.count(v));
        FallingLight x = World.rich();
        long[] due = {6, 5, 4, 4, 2, 1, 0, 1, 1};
        for (int what = 0; what < 9; what++) {
            is("count(" + what + ")", due[what], x.count(what));
        }
        FallingLight y = World.full();
        long[] full = {12, 10, 9, 0, 0, 0, 0, 0, 4};
        for (int what = 0; what < 9; what++) {
            is("count(" + what + ") of a full one", full[what], y.count(what));
        }
    }

    private static void founds() {
        sentence(32, "How many acts have answered a finding LOW - k (k 1 .. 5);");
        FallingLight x = World.full();
        Act[] acts = {w -> w.star(200, 0), w -> w.drop(0), w -> w.as(5, 0, 1), w -> w.tell(1), w -> w.row(0, -2)};
        for (int k = 1; k <= 5; k++) {
            is("none of " + k, 0, x.found(k));
            for (int n = 1; n <= 3 + k; n++) {
                acts[k - 1].on(x);
                is(n + " of " + k, n, x.found(k));
            }
        }
        for (int k = 1; k <= 5; k++) {
            is("all of " + k + " stand", 3 + k, x.found(k));
        }
        is("another object has its own", 0, new FallingLight().found(1));
        FallingLight y = World.rich();
        y.best(0);
        y.matched();
        y.check();
        y.shower(0, 1);
        for (int k = 1; k <= 5; k++) {
            is("acts that answer find nothing", 0, y.found(k));
        }
        sentence(32, "BEYOND: another k (counted, too).");
        outside("k", 1, 5, (w, v) -> w.found(v));
        FallingLight z = new FallingLight();
        is("0", BEYOND, z.found(0));
        is("that is counted", 1, z.found(1));
        is("6", BEYOND, z.found(6));
        is("that, too", 2, z.found(1));
        is("the others aren't", 0, z.found(2) + z.found(3) + z.found(4) + z.found(5));
    }
}
