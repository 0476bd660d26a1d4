/** Boundary cases of promises 21 to 29, and of the terms that they need: what is worked out. */
final class WorkedEdges extends Edges {
    private WorkedEdges() {
    }

    static void all() {
        stationsAtFirst();
        planes();
        rays();
        points();
        falls();
        angles();
        bestPair();
        bestFindings();
        lands();
        layers();
        winds();
        drifts();
        heights();
        radiants();
        showers();
    }

    private static void stationsAtFirst() {
        sentence(TERMS, "(all (0, 0, 0) at first)");
        for (int s = 0; s < 4; s++) {
            FallingLight x = new FallingLight();
            sight(x, 0, 0, s, 1, 2, 3, 3, 2, 1);
            sight(x, 0, 0, (s + 1) % 4, 1, 0, 0, 0, 1, 0);
            for (int axis = 0; axis < 3; axis++) {
                isFraction("station " + s, 0, 1, x.point(0, 0, 1, false, axis, false), x.point(0, 0, 1, false, axis, true));
            }
        }
    }

    private static void planes() {
        sentence(TERMS, "a SIGHT has none if that is (0, 0, 0).");
        int[][] none = {{1, 2, 3, 1, 2, 3}, {1, 2, 3, -2, -4, -6}, {0, 0, 9, 0, 0, -1}};
        for (int[] ways : none) {
            FallingLight x = new FallingLight();
            sight(x, 0, 0, 0, ways);
            for (int what = 2; what <= 4; what++) {
                is("no PLANE", NONE, x.about(0, 0, what));
            }
        }
        int[][] some = {{1, 0, 0, 0, 1, 0}, {0, 1, 0, 0, 0, 1}, {1, 0, 0, 0, 0, 1}};
        long[][] due = {{0, 0, 1}, {1, 0, 0}, {0, -1, 0}};
        for (int k = 0; k < 3; k++) {
            FallingLight x = new FallingLight();
            sight(x, 0, 0, 0, some[k]);
            for (int what = 2; what <= 4; what++) {
                is("a PLANE with two 0", due[k][what - 2], x.about(0, 0, what));
            }
        }
    }

    private static void rays() {
        sentence(TERMS, "for whatever number of it, below 0, too");
        FallingLight x = SightEdges.tower(-30, 1, 3);
        isFraction("behind the station, x", -30, 1, x.point(0, 0, 1, true, 0, false), x.point(0, 0, 1, true, 0, true));
        isFraction("behind the station, z", -10, 1, x.point(0, 0, 1, true, 2, false), x.point(0, 0, 1, true, 2, true));
        FallingLight z = new FallingLight();
        z.station(0, 5, 7, 9);
        z.station(1, 0, 0, 3);
        sight(z, 0, 0, 0, 1, 2, 3, 3, -1, -3);
        sight(z, 0, 0, 1, 1, 0, 0, 0, 1, 0);
        long[][] due = {{3, 3, 3}, {11, 5, 3}};
        for (int axis = 0; axis < 3; axis++) {
            is("down from above, BEGIN " + axis, due[0][axis], z.point(0, 0, 1, false, axis, false));
            is("down from above, END " + axis, due[1][axis], z.point(0, 0, 1, true, axis, false));
        }
        x.station(1, 0, 0, 0);
        isFraction("at the station", 0, 1, x.point(0, 0, 1, true, 2, false), x.point(0, 0, 1, true, 2, true));
        sentence(TERMS, "(A BLURRED s has neither.)");
        refused("BEGIN and END", KIND, w -> w.point(0, 2, 0, false, 0, false), w -> w.point(0, 2, 0, true, 0, false));
        FallingLight y = World.rich();
        // From (0, 0, 0) along (1, 2, 5) into -8 x + 10 y - 4 z = 440: w (-8) = 440.
        is("a BLURRED t is a PLANE like any other", -55, y.point(0, 0, 2, false, 0, false));
    }

    private static void points() {
        sentence(21, "BEYOND: there is no such METEOR or SIGHT, s is t, or another axis.");
        outside("meteor", 0, 5, (x, v) -> x.point(v, 0, 1, false, 0, false));
        outside("s", 0, 3, (x, v) -> x.point(0, v, 1, true, 0, false));
        outside("t", 0, 3, (x, v) -> x.point(0, 1, v, false, 0, true));
        outside("axis", 0, 2, (x, v) -> x.point(0, 0, 1, true, v, true));
        refused("s is t", BEYOND, x -> x.point(0, 0, 0, false, 0, false), x -> x.point(0, 1, 1, true, 0, false),
                x -> x.point(0, 3, 3, true, 2, true));
        refused("too few sights", BEYOND, x -> x.point(3, 0, 1, false, 0, false), x -> x.point(4, 0, 1, false, 0, false),
                x -> x.point(4, 1, 0, false, 0, false), x -> x.point(1, 0, 2, true, 0, false));
        sentence(21, "KIND: s is BLURRED.");
        refused("s 2", KIND, x -> x.point(0, 2, 0, false, 0, false), x -> x.point(0, 2, 1, true, 2, true));
        sentence(21, "NONE: t has no PLANE, or the ray is in it or never meets it.");
        refused("t has no PLANE", NONE, x -> x.point(0, 0, 3, false, 0, false), x -> x.point(0, 1, 3, true, 2, true),
                x -> x.point(1, 0, 1, false, 1, false));
        FallingLight w = World.rich();
        // From (99, -99, 9) along (1, 2, 3) into -7 x - 9 y + 5 z = 0: 243 - 10 w = 0.
        isFraction("s needs no PLANE", 1233, 10, w.point(0, 3, 0, false, 0, false), w.point(0, 3, 0, false, 0, true));
        FallingLight x = new FallingLight();
        x.station(1, 0, 0, 5);
        sight(x, 0, 0, 0, 1, 1, 0, 2, 1, 1);
        sight(x, 0, 0, 1, 1, 0, 0, 0, 1, 0);
        is("BEGIN never meets it", NONE, x.point(0, 0, 1, false, 0, false));
        is("END meets it", 5, x.point(0, 0, 1, true, 2, false));
        x.station(1, 9, 9, 0);
        is("BEGIN is in it", NONE, x.point(0, 0, 1, false, 0, false));
        FallingLight y = new FallingLight();
        y.station(1, 0, 0, 5);
        sight(y, 0, 0, 0, 2, 1, 1, 1, 1, 0);
        sight(y, 0, 0, 1, 1, 0, 0, 0, 1, 0);
        is("END never meets it", NONE, y.point(0, 0, 1, true, 0, false));
        is("BEGIN meets it", 10, y.point(0, 0, 1, false, 0, false));
    }

    private static void falls() {
        sentence(22, "BEYOND: as of point().");
        outside("meteor", 0, 5, (x, v) -> x.fall(v, 0, 1, 0));
        outside("s", 0, 3, (x, v) -> x.fall(0, v, 1, 0));
        outside("t", 0, 3, (x, v) -> x.fall(0, 1, v, 0));
        outside("axis", 0, 2, (x, v) -> x.fall(0, 0, 1, v));
        refused("s is t", BEYOND, x -> x.fall(0, 0, 0, 0), x -> x.fall(0, 2, 2, 0), x -> x.fall(0, 3, 3, 0));
        refused("too few sights", BEYOND, x -> x.fall(3, 0, 1, 0), x -> x.fall(4, 0, 1, 0), x -> x.fall(4, 1, 0, 0));
        sentence(22, "NONE: one has no PLANE, or there is no FALL.");
        refused("no PLANE of t", NONE, x -> x.fall(0, 0, 3, 0), x -> x.fall(0, 2, 3, 2), x -> x.fall(1, 0, 1, 1));
        refused("no PLANE of s", NONE, x -> x.fall(0, 3, 0, 0), x -> x.fall(1, 1, 0, 1));
        // (-8, 10, -4) x (-7, -14, 0).
        is("s may be BLURRED", 182, World.rich().fall(0, 2, 1, 2));
        is("t may be BLURRED", -182, World.rich().fall(0, 1, 2, 2));
        sentence(TERMS, "THE FALL of s and t, both with PLANES: PLANE of s x PLANE of t; there is none if that is (0, 0, 0).");
        FallingLight x = new FallingLight();
        sight(x, 0, 0, 0, 1, 0, 0, 0, 1, 0);
        sight(x, 0, 0, 1, 0, 9, 0, 9, 0, 0);
        sight(x, 0, 0, 2, 9, 0, 0, 0, 9, 0);
        sight(x, 0, 0, 3, 9, 0, 0, 0, 9, 1);
        is("PLANES against each other", NONE, x.fall(0, 0, 1, 0));
        is("PLANES along each other", NONE, x.fall(0, 0, 2, 2));
        // (0, 0, 1) x (0, -9, 81) is (9, 0, 0).
        is("PLANES hardly apart", 9, x.fall(0, 0, 3, 0));
        is("with 0 in it", 0, x.fall(0, 0, 3, 1));
        is("and 0 again", 0, x.fall(0, 0, 3, 2));
    }

    private static void angles() {
        sentence(23, "BEYOND: there is no such METEOR or SIGHT, or s is t.");
        outside("meteor", 0, 5, (x, v) -> x.angle(v, 0, 1, false));
        outside("s", 0, 3, (x, v) -> x.angle(0, v, 1, false));
        outside("t", 0, 3, (x, v) -> x.angle(0, 1, v, true));
        refused("s is t", BEYOND, x -> x.angle(0, 0, 0, false), x -> x.angle(0, 2, 2, true));
        refused("too few sights", BEYOND, x -> x.angle(3, 0, 1, false), x -> x.angle(4, 0, 1, false), x -> x.angle(4, 1, 0, true));
        sentence(23, "NONE: one has no PLANE.");
        refused("of t", NONE, x -> x.angle(0, 0, 3, false), x -> x.angle(0, 2, 3, true));
        refused("of s", NONE, x -> x.angle(0, 3, 0, false), x -> x.angle(1, 1, 0, true));
        FallingLight x = new FallingLight();
        sight(x, 0, 2, 0, 9, 9, 9, 9, -9, -9);
        sight(x, 0, 2, 0, 9, 9, -9, -9, 9, -9);
        sight(x, 0, 2, 0, -9, -9, -9, 9, -9, -9);
        // PLANES (0, 162, -162), (0, 162, 162) and (0, -162, 162).
        isFraction("BLURRED ones, upright", 0, 1, x.angle(0, 0, 1, false), x.angle(0, 0, 1, true));
        isFraction("the largest ones, alike", 1, 1, x.angle(0, 0, 2, false), x.angle(0, 0, 2, true));
    }

    private static void bestPair() {
        sentence(TERMS, "BEST PAIR of a METEOR: s (not BLURRED) and t, both with PLANES, of the least ANGLE,"
                + " of several the least s, then t; only such with a FALL and a BEGIN point.");
        FallingLight x = new FallingLight();
        // PLANES along z, x, y; BEGIN of 0 is in the PLANE of 1, that of 1 in that of 2, that of 2 in that of 0.
        sight(x, 0, 0, 0, 0, 1, 0, 1, 0, 0);
        sight(x, 0, 0, 0, 0, 0, 1, 0, 1, 0);
        sight(x, 0, 0, 0, 1, 0, 0, 0, 0, 1);
        is("02, 10 and 21 are alike: the least s", 2, x.best(0));
        FallingLight y = new FallingLight();
        sight(y, 0, 0, 0, 1, 1, 0, 1, 0, 0);
        sight(y, 0, 0, 0, 0, 1, 1, 0, 1, 0);
        sight(y, 0, 0, 0, 1, 0, 1, 0, 0, 1);
        is("all are alike: the least s, then t", 1, y.best(0));
        is("the same of two", 1, dropped(y, 1).best(0));
        FallingLight z = new FallingLight();
        // Of 0, 1 the ANGLE is 291848/367409, of 0, 2 it is 41425968/52156979: less by 1 in 10000.
        sight(z, 0, 0, 0, -3, -8, 9, -2, 8, 8);
        sight(z, 0, 0, 0, -3, 9, 9, -7, -7, 5);
        sight(z, 0, 0, 0, -7, 9, 8, -8, -7, 8);
        isFraction("of 0, 1", 291848, 367409, z.angle(0, 0, 1, false), z.angle(0, 0, 1, true));
        isFraction("of 0, 2", 41425968, 52156979, z.angle(0, 0, 2, false), z.angle(0, 0, 2, true));
        is("hardly less", 2, z.best(0));
        FallingLight w = new FallingLight();
        sight(w, 0, 2, 0, 0, 1, 1, 0, 1, 0);
        sight(w, 0, 0, 0, 1, 1, 0, 1, 0, 0);
        sight(w, 0, 0, 0, 1, 0, 1, 0, 0, 1);
        is("s isn't BLURRED, t is", 10, w.best(0));
        sight(w, 1, 0, 0, 1, 0, 0, 0, 1, 0);
        sight(w, 1, 0, 0, 0, 9, 0, 9, 0, 0);
        is("no FALL", NONE, w.best(1));
        sight(w, 1, 0, 0, 1, 0, 5, 0, 1, 0);
        is("but with a third one", 2, w.best(1));
    }

    private static FallingLight dropped(FallingLight x, int sights) {
        for (int k = 0; k < sights; k++) {
            x.drop(0);
        }
        return x;
    }

    private static void bestFindings() {
        sentence(24, "BEYOND: there is no such METEOR.");
        outside("meteor", 0, 5, (x, v) -> x.best(v));
        sentence(24, "NONE.");
        refused("no sight, one sight, none with a PLANE", NONE, x -> x.best(3), x -> x.best(4), x -> x.best(2), x -> x.best(1));
        FallingLight x = new FallingLight();
        sight(x, 0, 2, 0, 1, 1, 0, 1, 0, 0);
        sight(x, 0, 2, 0, 0, 1, 1, 0, 1, 0);
        is("BLURRED ones alone", NONE, x.best(0));
        is("what was asked within isn't found", 1, x.found(2));
        is("and no KIND", 0, x.found(3));
        sight(x, 0, 1, 0, 1, 0, 1, 1, 0, 1, 1, 1, 1);
        is("s without a PLANE", NONE, x.best(0));
        sight(x, 0, 1, 0, 1, 0, 1, 0, 0, 1, 1, 1, 1);
        is("a LONG one", 30, x.best(0));
        is("two were found", 2, x.found(2));
    }

    private static void lands() {
        sentence(25, "BEYOND: there is no such METEOR or SIGHT, or s is t.");
        outside("meteor", 0, 5, (x, v) -> x.land(v, 0, 1, false, false));
        outside("s", 0, 3, (x, v) -> x.land(0, v, 1, true, false));
        outside("t", 0, 3, (x, v) -> x.land(0, 1, v, false, true));
        refused("s is t", BEYOND, x -> x.land(0, 0, 0, false, false), x -> x.land(0, 3, 3, true, true));
        refused("too few sights", BEYOND, x -> x.land(3, 0, 1, true, true), x -> x.land(4, 0, 1, true, true),
                x -> x.land(4, 1, 0, true, true));
        sentence(25, "KIND: s is BLURRED.");
        refused("s 2", KIND, x -> x.land(0, 2, 0, false, false), x -> x.land(0, 2, 1, true, true));
        FallingLight w = World.rich();
        // From (-55, -110, -275) along (-14, -68, -142).
        isFraction("t may be BLURRED", -1980, 71, w.land(0, 0, 2, false, false), w.land(0, 0, 2, false, true));
        sentence(25, "NONE: there is no BEGIN point, no FALL, or that never comes to height 0 (its z is 0).");
        refused("t has no PLANE", NONE, x -> x.land(0, 0, 3, false, false), x -> x.land(1, 0, 1, true, true));
        refused("s has no PLANE", NONE, x -> x.land(0, 3, 0, false, false), x -> x.land(0, 3, 1, true, true));
        is("though there is a BEGIN point", 1233, w.point(0, 3, 0, false, 0, false));
        FallingLight x = new FallingLight();
        sight(x, 0, 0, 0, 0, 0, 1, 1, 0, 0);
        sight(x, 0, 0, 0, 0, 1, 0, 0, 0, 1);
        is("a FALL that comes down", -1, x.fall(0, 0, 1, 2));
        is("but no BEGIN point", NONE, x.land(0, 0, 1, false, false));
        level();
    }

    /** Both planes hold the way (1, 0, 0). */
    private static void level() {
        FallingLight x = new FallingLight();
        x.station(1, 0, 9, 0);
        sight(x, 0, 0, 0, 1, 1, 1, -1, 1, 1);
        sight(x, 0, 0, 1, 1, -1, 2, -1, -1, 2);
        is("a BEGIN point", 6, x.point(0, 0, 1, false, 2, false));
        is("a level FALL", 0, x.fall(0, 0, 1, 2));
        is("that never comes down", NONE, x.land(0, 0, 1, false, false));
        x.station(1, 0, 0, 0);
        is("a BEGIN point of height 0", 0, x.point(0, 0, 1, false, 2, false));
        is("its FALL's z is 0 all the same", NONE, x.land(0, 0, 1, true, true));
        FallingLight y = World.rich();
        y.station(1, 60, 0, 0);
        y.station(0, 60, 0, 0);
        is("both at one station: it lands there, x", 60, y.land(0, 0, 1, false, false));
        is("both at one station: it lands there, y", 0, y.land(0, 0, 1, true, false));
    }

    private static void layers() {
        sentence(TERMS, "Layers of WIND 0 .. 9, layer k from height 10 k to 10 (k + 1):"
                + " a drift (x, y; each -9 .. 9) for each unit of height.");
        for (int k = 0; k < 10; k++) {
            FallingLight x = high(10 * k);
            x.wind(k, 9, -9);
            isFraction("nothing of layer " + k, 0, 1, x.drift(0, 0, 1, false, false), x.drift(0, 0, 1, false, true));
            FallingLight y = high(10 * k + 10);
            y.wind(k, 9, -9);
            isFraction("all of layer " + k, 90, 1, y.drift(0, 0, 1, false, false), y.drift(0, 0, 1, false, true));
            isFraction("all of layer " + k + ", y", -90, 1, y.drift(0, 0, 1, true, false), y.drift(0, 0, 1, true, true));
            FallingLight z = high(10 * k + 1);
            z.wind(k, -9, 9);
            is("a little of layer " + k, -9, z.drift(0, 0, 1, false, false));
        }
        FallingLight x = SightEdges.tower(13, 7, 9);
        x.wind(0, 1, 0);
        x.wind(1, 9, 1);
        isFraction("91/9", 11, 1, x.drift(0, 0, 1, false, false), x.drift(0, 0, 1, false, true));
        isFraction("91/9, y", 1, 9, x.drift(0, 0, 1, true, false), x.drift(0, 0, 1, true, true));
        FallingLight y = SightEdges.tower(89, 1, 9);
        y.wind(0, 1, 0);
        y.wind(1, 9, 1);
        isFraction("89/9", 89, 9, y.drift(0, 0, 1, false, false), y.drift(0, 0, 1, false, true));
        isFraction("89/9, y", 0, 1, y.drift(0, 0, 1, true, false), y.drift(0, 0, 1, true, true));
    }

    /** END of sight 0 by 1 at a height of 0 .. 198. */
    private static FallingLight high(int height) {
        FallingLight x = SightEdges.tower(height - 99, 1, 1);
        x.station(0, -99, 0, 0);
        return x;
    }

    private static void winds() {
        sentence(26, "BEYOND: there is no such layer, or one isn't -9 .. 9.");
        outside("layer", 0, 9, (x, v) -> x.wind(v, 1, 1));
        outside("x", -9, 9, (x, v) -> x.wind(3, v, 1));
        outside("y", -9, 9, (x, v) -> x.wind(3, 1, v));
        FallingLight x = high(100);
        is("the first layer, the least", 1, x.wind(0, -9, -9));
        is("the last layer, the most", 1, x.wind(9, 9, 9));
        is("together", 0, x.drift(0, 0, 1, false, false));
        is("again", 1, x.wind(9, -9, 8));
        is("that is so now, x", -180, x.drift(0, 0, 1, false, false));
        is("that is so now, y", -10, x.drift(0, 0, 1, true, false));
    }

    private static void drifts() {
        sentence(27, "BEYOND, KIND, NONE: as of point().");
        outside("meteor", 0, 5, (x, v) -> x.drift(v, 0, 1, false, false));
        outside("s", 0, 3, (x, v) -> x.drift(0, v, 1, true, false));
        outside("t", 0, 3, (x, v) -> x.drift(0, 1, v, false, true));
        refused("s is t", BEYOND, x -> x.drift(0, 0, 0, false, false), x -> x.drift(0, 3, 3, true, true));
        refused("too few sights", BEYOND, x -> x.drift(3, 0, 1, true, true), x -> x.drift(4, 0, 1, true, true),
                x -> x.drift(4, 1, 0, true, true));
        refused("s is BLURRED", KIND, x -> x.drift(0, 2, 0, false, false), x -> x.drift(0, 2, 1, true, true));
        refused("t has no PLANE", NONE, x -> x.drift(0, 0, 3, false, false), x -> x.drift(1, 0, 1, true, true));
        FallingLight x = new FallingLight();
        x.station(1, 0, 0, 5);
        sight(x, 0, 0, 0, 2, 1, 1, 1, 1, 0);
        sight(x, 0, 0, 1, 1, 0, 0, 0, 1, 0);
        is("END never meets it, BEGIN does", NONE, x.drift(0, 0, 1, false, false));
        x.station(1, 0, 0, 0);
        is("END is in it", NONE, x.drift(0, 0, 1, false, false));
        FallingLight y = new FallingLight();
        y.station(1, 0, 0, 5);
        sight(y, 0, 0, 0, 1, 1, 0, 2, 1, 1);
        sight(y, 0, 0, 1, 1, 0, 0, 0, 1, 0);
        y.wind(0, 2, 3);
        is("BEGIN never meets it, END does", 10, y.drift(0, 0, 1, false, false));
    }

    private static void heights() {
        sentence(27, "SIZE: that height isn't 0 .. 100.");
        is("0", 0, high(0).drift(0, 0, 1, false, false));
        is("100", 0, high(100).drift(0, 0, 1, false, false));
        is("101", SIZE, high(101).drift(0, 0, 1, false, false));
        is("198", SIZE, high(198).drift(0, 0, 1, true, true));
        is("-1", SIZE, SightEdges.tower(-1, 1, 1).drift(0, 0, 1, false, false));
        is("-1/9", SIZE, SightEdges.tower(-1, 1, 9).drift(0, 0, 1, true, false));
        is("-1/9, turned about", SIZE, SightEdges.tower(1, 1, -9).drift(0, 0, 1, true, false));
        is("1/9", 0, SightEdges.tower(1, 1, 9).drift(0, 0, 1, true, false));
        FallingLight x = SightEdges.tower(82, 5, 9);
        x.station(0, -82, 0, 9);
        isFraction("901/9 is its height", 901, 9, x.point(0, 0, 1, true, 2, false), x.point(0, 0, 1, true, 2, true));
        is("901/9", SIZE, x.drift(0, 0, 1, false, false));
        is("901/9 is found", 1, x.found(5));
        refusedIn(() -> SightEdges.tower(-1, 1, 9), "below 0", SIZE, w -> w.drift(0, 0, 1, false, false),
                w -> w.drift(0, 0, 1, true, true));
        sentence(TERMS, "DRIFT from a height h (0 .. 100, a fraction):"
                + " the sum over layers of the drift times how much of the layer is below h.");
        FallingLight y = SightEdges.tower(99, 4, 7);
        y.station(0, -60, 0, 9);
        for (int k = 0; k < 10; k++) {
            y.wind(k, k, 9 - 2 * k);
        }
        isFraction("699/7 is its height", 699, 7, y.point(0, 0, 1, true, 2, false), y.point(0, 0, 1, true, 2, true));
        // 360 of layers 0 to 8 and 9 times 69/7; 90 and -9 times 69/7.
        isFraction("699/7, x", 3141, 7, y.drift(0, 0, 1, false, false), y.drift(0, 0, 1, false, true));
        isFraction("699/7, y", 9, 7, y.drift(0, 0, 1, true, false), y.drift(0, 0, 1, true, true));
    }

    private static void radiants() {
        sentence(28, "BEYOND: there is no such METEOR, they are the same, or another axis.");
        outside("a", 0, 5, (x, v) -> x.radiant(v, 1, 0));
        outside("b", 0, 5, (x, v) -> x.radiant(0, v, 0));
        outside("axis", 0, 2, (x, v) -> x.radiant(0, 1, v));
        refused("the same", BEYOND, x -> x.radiant(0, 0, 0), x -> x.radiant(5, 5, 2), x -> x.radiant(3, 3, 1));
        sentence(28, "NONE: one has no SIGHT with a PLANE, or it is (0, 0, 0).");
        refused("no SIGHT with a PLANE", NONE, x -> x.radiant(0, 2, 0), x -> x.radiant(2, 0, 1), x -> x.radiant(2, 3, 2));
        refused("no SIGHT", NONE, x -> x.radiant(0, 3, 0), x -> x.radiant(3, 0, 1));
        refused("(0, 0, 0)", NONE, x -> x.radiant(4, 5, 0), x -> x.radiant(5, 4, 2));
        FallingLight x = World.rich();
        // PLANES (-6, -1, 3) of 1 and (0, 0, 1) of 4.
        is("0 in one of three isn't none", 0, x.radiant(1, 4, 2));
        is("x of those", -1, x.radiant(1, 4, 0));
        is("y of those", 6, x.radiant(1, 4, 1));
        sentence(TERMS, "A RADIANT of two METEORS: the way PLANE x PLANE of their first SIGHTS with PLANES.");
        FallingLight y = new FallingLight();
        sight(y, 0, 2, 0, 1, 1, 1, 1, 1, 1);
        sight(y, 0, 0, 0, 1, 2, 3, 1, 2, 3);
        sight(y, 0, 0, 0, 2, 2, 2, 1, 1, 1);
        is("three without", NONE, y.radiant(0, 5, 1));
        sight(y, 5, 0, 0, 0, 1, 0, 0, 0, 1);
        is("still three without", NONE, y.radiant(0, 5, 1));
        sight(y, 0, 2, 0, 1, 0, 0, 0, 1, 0);
        is("the last of four", 1, y.radiant(0, 5, 1));
        sight(y, 5, 0, 0, 0, 0, 1, 1, 0, 0);
        is("the first of two", 1, y.radiant(0, 5, 1));
    }

    private static void showers() {
        sentence(29, "BEYOND, NONE likewise.");
        outside("a", 0, 5, (x, v) -> x.shower(v, 1));
        outside("b", 0, 5, (x, v) -> x.shower(0, v));
        refused("the same", BEYOND, x -> x.shower(0, 0), x -> x.shower(5, 5), x -> x.shower(3, 3));
        refused("no SIGHT with a PLANE", NONE, x -> x.shower(0, 2), x -> x.shower(2, 0), x -> x.shower(2, 3));
        refused("no SIGHT", NONE, x -> x.shower(0, 3), x -> x.shower(3, 0));
        refused("(0, 0, 0)", NONE, x -> x.shower(4, 5), x -> x.shower(5, 4));
        sentence(TERMS, "SHOWER of two METEORS: all METEORS of which each SIGHT with a PLANE (one at least)"
                + " has a scalar product 0 of its PLANE's way with that RADIANT.");
        FallingLight x = World.rich();
        is("1, 4 and 5; 2 and 3 have no PLANE", 2 + 16 + 32, x.shower(1, 4));
        FallingLight y = new FallingLight();
        for (int m = 0; m < 6; m++) {
            sight(y, m, 0, 0, 1, 0, 0, 0, 1, m == 5 ? 1 : 0);
        }
        is("all of them", 63, y.shower(0, 5));
        sight(y, 3, 0, 0, 1, 2, 3, 1, 2, 3);
        is("one more without a PLANE", 63, y.shower(5, 0));
        sight(y, 3, 2, 0, 0, 1, 0, 0, 0, 1);
        is("one more that is off", 55, y.shower(5, 0));
        sight(y, 0, 2, 0, 0, 1, 0, 0, 0, 1);
        is("even of the two themselves", 54, y.shower(5, 0));
        y.drop(4);
        sight(y, 4, 0, 0, 0, 1, 0, 0, 0, 1);
        sight(y, 4, 0, 0, 1, 0, 0, 0, 1, 0);
        is("the first is off, the last isn't", 38, y.shower(5, 1));
    }
}
