/** Boundary cases of promises 15 to 20: stations and sights. */
final class SightEdges extends Edges {
    private SightEdges() {
    }

    static void all() {
        stations();
        tells();
        sightOfNone();
        sightOfSize();
        sightOfWays();
        sightsFull();
        drops();
        abouts();
        kinds();
    }

    /** END of sight 0 is at height (apart up / over): sight 1's plane stands at x = apart. No wind. */
    static FallingLight tower(int apart, int up, int over) {
        FallingLight x = new FallingLight();
        x.station(1, apart, 0, 0);
        sight(x, 0, 0, 0, 0, 1, 1, over, 0, up);
        sight(x, 0, 0, 1, 0, 1, 0, 0, 0, 1);
        return x;
    }

    private static void stations() {
        sentence(15, "BEYOND: there is no such one, or its place isn't as told.");
        outside("s", 0, 3, (x, v) -> x.station(v, 1, 1, 1));
        outside("x", -99, 99, (x, v) -> x.station(0, v, 1, 1));
        outside("y", -99, 99, (x, v) -> x.station(1, 1, v, 1));
        outside("z", 0, 9, (x, v) -> x.station(2, 1, 1, v));
        for (int s = 0; s < 4; s++) {
            FallingLight x = new FallingLight();
            is("the least, station " + s, 1, x.station(s, -99, -99, 0));
            is("the most, station " + s, 1, x.station(s, 99, 99, 9));
        }
        FallingLight y = tower(99, 1, 1);
        y.station(0, -99, 99, 9);
        isFraction("from edge to edge, x", 99, 1, y.point(0, 0, 1, true, 0, false), y.point(0, 0, 1, true, 0, true));
        isFraction("from edge to edge, y", 99, 1, y.point(0, 0, 1, true, 1, false), y.point(0, 0, 1, true, 1, true));
        isFraction("from edge to edge, z", 207, 1, y.point(0, 0, 1, true, 2, false), y.point(0, 0, 1, true, 2, true));
    }

    private static void tells() {
        sentence(16, "One more number comes to the tape: how many.");
        FallingLight x = new FallingLight();
        int[] numbers = {MIN, MAX, 0, -1, 10, -10, 65536, 1, 2};
        for (int k = 0; k < 9; k++) {
            is("any number comes", k + 1, x.tell(numbers[k]));
        }
        is("nine are there", 9, x.count(2));
        sentence(16, "FULL: 9 are there.");
        is("a tenth one", FULL, x.tell(0));
        is("nine are still there", 9, x.count(2));
        refusedIn(World::full, "a tenth one", FULL, w -> w.tell(0), w -> w.tell(MIN), w -> w.tell(-1));
        FallingLight y = new FallingLight();
        tape(y, 1, 0, 0, 0, 1, 0, 1, 1, 2, 77);
        is("the nine told first make a sight", 0, y.sight(0, 1, 0));
        is("whose middle way is theirs", 2, y.about(0, 0, 5));
        is("one more behind it", 1, y.tell(3));
    }

    private static void sightOfNone() {
        sentence(17, "BEYOND: there is no such METEOR, kind, or station.");
        outside("meteor", 0, 5, (x, v) -> x.sight(v, 0, 0));
        outside("kind", 0, 2, (x, v) -> x.sight(3, v, 0));
        outside("station", 0, 3, (x, v) -> x.sight(3, 0, v));
        for (int m = 0; m < 6; m++) {
            is("meteor " + m, 0, sight(new FallingLight(), m, 0, 0, 1, 0, 0, 0, 1, 0));
        }
        for (int s = 0; s < 4; s++) {
            is("station " + s, 0, sight(new FallingLight(), 0, 2, s, 1, 0, 0, 0, 1, 0));
        }
    }

    private static void sightOfSize() {
        sentence(17, "SIZE: the tape has not 6 (LONG: 9) numbers.");
        for (int kind = 0; kind < 3; kind++) {
            for (int n = 0; n <= 9; n++) {
                FallingLight x = new FallingLight();
                for (int k = 0; k < n; k++) {
                    x.tell(k + 1);
                }
                boolean fits = n == (kind == 1 ? 9 : 6);
                is(n + " numbers for kind " + kind, fits ? 0 : SIZE, x.sight(3, kind, 0));
                is("the tape behind it", 0, x.count(2));
                is("sights behind it", fits ? 1 : 0, x.count(6));
            }
        }
    }

    private static void sightOfWays() {
        sentence(17, "BEYOND: a way isn't as told.");
        for (int k = 0; k < 9; k++) {
            for (int v : new int[] {-10, 10, MIN, MAX, 256, 65536, -65535}) {
                int[] ways = {1, 2, 3, 4, 5, 6, 7, 8, 9};
                ways[k] = v;
                FallingLight x = new FallingLight();
                is(v + " at " + k, BEYOND, sight(x, 3, 1, 0, ways));
                is("no sight", 0, x.count(6));
            }
            for (int v : new int[] {-9, 9}) {
                int[] ways = {1, 2, 3, 4, 5, 6, 7, 8, 9};
                ways[k] = v;
                is(v + " at " + k, 0, sight(new FallingLight(), 3, 1, 0, ways));
            }
        }
        for (int w = 0; w < 3; w++) {
            for (int k = 0; k < 3; k++) {
                int[] ways = {1, 2, 3, 4, 5, 6, 7, 8, 9};
                ways[3 * w + k] = 0;
                ways[3 * w + (k + 1) % 3] = 0;
                is("two of way " + w + " are 0", 0, sight(new FallingLight(), 3, 1, 0, ways));
                ways[3 * w + (k + 2) % 3] = 0;
                is("all of way " + w + " are 0", BEYOND, sight(new FallingLight(), 3, 1, 0, ways));
            }
        }
        is("BEGIN of a plain one", BEYOND, sight(new FallingLight(), 3, 0, 0, 0, 0, 0, 4, 5, 6));
        is("END of a plain one", BEYOND, sight(new FallingLight(), 3, 0, 0, 1, 2, 3, 0, 0, 0));
        is("END of a BLURRED one", BEYOND, sight(new FallingLight(), 3, 2, 0, 1, 2, 3, 4, 5, 10));
        is("the sum is 0", 0, sight(new FallingLight(), 3, 0, 0, 1, -1, 0, 2, -1, -1));
        emptied("a way too far", BEYOND, 3, 0, 1, 2, 3, 4, 5, 10);
    }

    private static void sightsFull() {
        sentence(17, "FULL.");
        FallingLight x = new FallingLight();
        for (int m = 0; m < 6; m++) {
            for (int k = 0; k < 4; k++) {
                is("sight " + k + " of " + m, k, sight(x, m, 0, 0, 1, 0, 0, 0, 1, 0));
            }
            is("sight 4 of " + m, FULL, sight(x, m, 2, 0, 1, 0, 0, 0, 1, 0));
            is("four sights of " + m, 4, x.count(3 + m));
        }
        emptied("one too many", FULL, 0, 0, 1, 2, 3, 4, 5, 6);
        emptied("a LONG one too many", FULL, 0, 1, 1, 2, 3, 4, 5, 6, 7, 8, 9);
        sentence(17, "(The tape is empty behind each but the first.)");
        emptied("SIZE", SIZE, 3, 1, 1, 2, 3, 4, 5, 6);
        emptied("SIZE of an empty tape", SIZE, 3, 0);
        emptied("a way", BEYOND, 3, 0, 0, 0, 0, 4, 5, 6);
        emptied("FULL", FULL, 0, 2, 1, 2, 3, 4, 5, 6);
        FallingLight y = new FallingLight();
        tape(y, 1, 0, 0, 0, 1, 0);
        is("no such meteor", BEYOND, y.sight(6, 0, 0));
        is("no such kind", BEYOND, y.sight(0, 3, 0));
        is("no such station", BEYOND, y.sight(0, 0, 4));
        is("six numbers stand", 6, y.count(2));
        is("and make a sight", 0, y.sight(0, 0, 0));
        is("with its ways", 1, y.about(0, 0, 4));
        is("the tape is empty behind that", 0, y.count(2));
    }

    /** A sight that is refused behind the first finding empties the tape, and changes nothing else. */
    private static void emptied(String what, long finding, int meteor, int kind, int... numbers) {
        FallingLight x = World.rich();
        FallingLight twin = World.rich();
        x.check();
        twin.check();
        tape(x, numbers);
        is(what, finding, x.sight(meteor, kind, 1));
        is(what + ": found", 1, x.found((int) (LOW - finding)) - twin.found((int) (LOW - finding)));
        same(what, x, twin);
    }

    private static void drops() {
        sentence(18, "The last SIGHT of a METEOR is gone: how many it has.");
        FallingLight x = World.rich();
        for (int k = 3; k >= 0; k--) {
            is("of four", k, x.drop(0));
            is("as many are there", k, x.count(3));
            is("sight " + k + " is gone", BEYOND, x.about(0, k, 0));
        }
        is("another meteor's stand", 2, x.count(4));
        sentence(18, "BEYOND.");
        outside("meteor", 0, 5, (w, v) -> w.drop(v));
        sentence(18, "NONE.");
        is("all have gone", NONE, x.drop(0));
        is("none are there", 0, x.count(3));
        refused("none ever came", NONE, w -> w.drop(3), w -> w.drop(3));
        x.check();
        is("the first one again", 0, sight(x, 0, 0, 0, 0, 0, 1, 1, 0, 0));
        is("the last meteor's", 0, World.rich().drop(5));
    }

    private static void abouts() {
        sentence(19, "2 .. 4 its PLANE's way (NONE if it has none),");
        refused("no PLANE", NONE, x -> x.about(0, 3, 2), x -> x.about(0, 3, 3), x -> x.about(0, 3, 4),
                x -> x.about(1, 1, 2), x -> x.about(2, 0, 4));
        FallingLight x = new FallingLight();
        sight(x, 0, 0, 0, 9, 9, 0, -9, 9, 0);
        sight(x, 0, 0, 0, -9, 9, 0, 9, 9, 0);
        is("the most", 162, x.about(0, 0, 4));
        is("the least", -162, x.about(0, 1, 4));
        is("0 in one of three isn't none", 0, x.about(0, 0, 2));
        sight(x, 0, 0, 0, 1, 2, 3, 2, 4, 7);
        is("hardly a PLANE, x", 2, x.about(0, 2, 2));
        is("hardly a PLANE, z", 0, x.about(0, 2, 4));
        sentence(19, "5 BEND (KIND: it isn't LONG; NONE: no PLANE).");
        refused("not LONG", KIND, y -> y.about(0, 0, 5), y -> y.about(0, 2, 5), y -> y.about(1, 1, 5), y -> y.about(2, 0, 5));
        refused("no PLANE", NONE, y -> y.about(0, 3, 5));
        sight(x, 0, 1, 0, 9, -9, 9, 9, 9, -9, 0, 9, 9);
        is("the most BEND", 2916, x.about(0, 3, 5));
        sight(x, 1, 1, 0, 1, 2, 3, 3, 2, 1, 4, 4, 4);
        is("no BEND is 0", 0, x.about(1, 0, 5));
        sentence(19, "BEYOND: there is no such METEOR or SIGHT, or another what.");
        outside("meteor", 0, 5, (y, v) -> y.about(v, 0, 0));
        outside("sight", 0, 3, (y, v) -> y.about(0, v, 1));
        outside("sight of a meteor with fewer", 0, 1, (y, v) -> y.about(1, v, 1));
        outside("what", 0, 5, (y, v) -> y.about(0, 0, v));
        refused("a meteor without sights", BEYOND, y -> y.about(3, 0, 0), y -> y.about(3, -1, 5));
        FallingLight y = World.rich();
        long[] kinds = {0, 0, 2, 1};
        for (int s = 0; s < 4; s++) {
            is("the least what, sight " + s, kinds[s], y.about(0, s, 0));
            is("the station, sight " + s, s, y.about(0, s, 1));
        }
    }

    private static void kinds() {
        sentence(20, "BEYOND: there is no such one, or kind.");
        outside("meteor", 0, 5, (x, v) -> x.as(v, 0, 0));
        outside("sight", 0, 3, (x, v) -> x.as(0, v, 0));
        outside("kind", 0, 2, (x, v) -> x.as(0, 0, v));
        refused("a meteor without sights", BEYOND, x -> x.as(3, 0, 0));
        sentence(20, "KIND: it isn't of that kind, nor of one under it.");
        refused("plain as LONG, as BLURRED", KIND, x -> x.as(0, 0, 1), x -> x.as(0, 0, 2));
        refused("BLURRED as LONG, LONG as BLURRED", KIND, x -> x.as(0, 2, 1), x -> x.as(0, 3, 2));
        FallingLight x = World.rich();
        is("plain as plain", 1, x.as(0, 1, 0));
        is("BLURRED as BLURRED", 2, x.as(0, 2, 2));
        is("BLURRED is under SIGHT", 2, x.as(0, 2, 0));
        is("LONG as LONG", 3, x.as(0, 3, 1));
        is("LONG is under SIGHT", 3, x.as(0, 3, 0));
    }
}
