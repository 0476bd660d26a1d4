import java.util.Random;

/** The terms of stations and sights in skies from fixed seeds: each answer is held against its definition. */
final class SkyTerms extends Edges {
    private SkyTerms() {
    }

    static void all() {
        stations();
        sights();
        planesAndBends();
        points();
        falls();
        angles();
        bestPairs();
        landings();
        drifts();
        radiants();
    }

    /** Sights of meteors by a seed; what is known of them is kept as it was told. */
    private static final class Sky {
        final FallingLight light = new FallingLight();
        final int[][] stations = new int[4][];
        final int[][] winds = new int[10][];
        final int[][] kinds;
        final int[][] by;
        final long[][][] ways;

        Sky(long seed, int meteors, int sights) {
            Random random = new Random(seed);
            int reach = new int[] {1, 2, 4, 9}[random.nextInt(4)];
            int far = random.nextInt(3) == 0 ? 3 : 99;
            for (int s = 0; s < 4; s++) {
                stations[s] = new int[] {random.nextInt(2 * far + 1) - far, random.nextInt(2 * far + 1) - far, random.nextInt(10)};
                light.station(s, stations[s][0], stations[s][1], stations[s][2]);
            }
            for (int k = 0; k < 10; k++) {
                winds[k] = new int[] {random.nextInt(19) - 9, random.nextInt(19) - 9};
                light.wind(k, winds[k][0], winds[k][1]);
            }
            kinds = new int[meteors][sights];
            by = new int[meteors][sights];
            ways = new long[meteors][sights][];
            for (int m = 0; m < meteors; m++) {
                for (int s = 0; s < sights; s++) {
                    tellSight(random, reach, m, s);
                }
            }
        }

        private void tellSight(Random random, int reach, int m, int s) {
            kinds[m][s] = random.nextInt(3) == 0 ? 1 + random.nextInt(2) : 0;
            by[m][s] = random.nextInt(4);
            ways[m][s] = new long[9];
            for (int k = 0; k < 9; k++) {
                ways[m][s][k] = random.nextInt(2 * reach + 1) - reach;
            }
            for (int k = 0; k < 9; k += 3) {
                if (isNought(way(m, s, k / 3))) {
                    ways[m][s][k] = 1;
                }
            }
            for (int k = 0; k < (kinds[m][s] == 1 ? 9 : 6); k++) {
                light.tell((int) ways[m][s][k]);
            }
            light.sight(m, kinds[m][s], by[m][s]);
        }

        /** 0 BEGIN, 1 END, 2 the middle one. */
        long[] way(int m, int s, int which) {
            return new long[] {ways[m][s][3 * which], ways[m][s][3 * which + 1], ways[m][s][3 * which + 2]};
        }

        long[] plane(int m, int s) {
            return cross(way(m, s, 0), way(m, s, 1));
        }

        boolean hasPlane(int m, int s) {
            return !isNought(plane(m, s));
        }

        int[] stationOf(int m, int s) {
            return stations[by[m][s]];
        }
    }

    private static long[] cross(long[] a, long[] b) {
        return new long[] {a[1] * b[2] - a[2] * b[1], a[2] * b[0] - a[0] * b[2], a[0] * b[1] - a[1] * b[0]};
    }

    private static long dot(long[] a, long[] b) {
        return a[0] * b[0] + a[1] * b[1] + a[2] * b[2];
    }

    private static boolean isNought(long[] a) {
        return a[0] == 0 && a[1] == 0 && a[2] == 0;
    }

    private static Q fraction(long above, long below) {
        return Q.of(above).by(Q.of(below));
    }

    /** An act asked for each of the pairs of unlike sights of meteor 0. */
    private interface OfPair {
        void look(Sky sky, int s, int t, String what);
    }

    private static void pairs(int seeds, OfPair look) {
        for (int seed = 1; seed <= seeds; seed++) {
            Sky sky = new Sky(seed, 1, 4);
            for (int s = 0; s < 4; s++) {
                for (int t = 0; t < 4; t++) {
                    if (s != t) {
                        look.look(sky, s, t, "seed " + seed + ", " + s + ", " + t);
                    }
                }
            }
        }
    }

    /** Rays from a station meet the plane of another sight from there in the station itself. */
    private static void stations() {
        sentence(TERMS, "2. STATIONS 0 .. 3 are at (x, y, z), x and y -99 .. 99, z 0 .. 9");
        Random random = new Random(7);
        for (int k = 0; k < 200; k++) {
            FallingLight x = new FallingLight();
            int[] at = {random.nextInt(199) - 99, random.nextInt(199) - 99, random.nextInt(10)};
            int s = random.nextInt(4);
            is("a place", 1, x.station(s, at[0], at[1], at[2]));
            sight(x, 0, 0, s, 1, 2, 3, 3, 2, 1);
            sight(x, 0, 0, s, 1, 0, 0, 0, 1, 0);
            for (int axis = 0; axis < 3; axis++) {
                isFraction("its place", at[axis], 1, x.point(0, 0, 1, false, axis, false), x.point(0, 0, 1, false, axis, true));
            }
        }
    }

    private static void sights() {
        sentence(TERMS, "METEORS 0 .. 5 have SIGHTS 0, 1, .. (at most 4 each), of KINDS: 0 SIGHT, 1 LONG under SIGHT,"
                + " 2 BLURRED under SIGHT: a station, a way of the BEGIN and one of the END (each three numbers -9 .. 9, not all 0),"
                + " of a LONG one a middle way, too.");
        for (int seed = 1; seed <= 100; seed++) {
            Sky sky = new Sky(seed, 6, 4);
            for (int m = 0; m < 6; m++) {
                is("sights", 4, sky.light.count(3 + m));
                for (int s = 0; s < 4; s++) {
                    is("kind", sky.kinds[m][s], sky.light.about(m, s, 0));
                    is("station", sky.by[m][s], sky.light.about(m, s, 1));
                    is("each is a SIGHT", sky.by[m][s], sky.light.as(m, s, 0));
                    is("as LONG", sky.kinds[m][s] == 1 ? sky.by[m][s] : KIND, sky.light.as(m, s, 1));
                    is("as BLURRED", sky.kinds[m][s] == 2 ? sky.by[m][s] : KIND, sky.light.as(m, s, 2));
                }
                is("a fifth one", FULL, sight(sky.light, m, 0, 0, 1, 2, 3, 4, 5, 6));
            }
        }
    }

    private static void planesAndBends() {
        sentence(TERMS, "PLANE of a SIGHT: BEGIN x END (the cross product) is its way;");
        for (int seed = 1; seed <= 300; seed++) {
            Sky sky = new Sky(seed, 1, 4);
            for (int s = 0; s < 4; s++) {
                long[] plane = sky.plane(0, s);
                for (int axis = 0; axis < 3; axis++) {
                    is("PLANE", isNought(plane) ? NONE : plane[axis], sky.light.about(0, s, 2 + axis));
                }
                if (!isNought(plane)) {
                    long[] told = {sky.light.about(0, s, 2), sky.light.about(0, s, 3), sky.light.about(0, s, 4)};
                    is("BEGIN lies in it", 0, dot(told, sky.way(0, s, 0)));
                    is("END lies in it", 0, dot(told, sky.way(0, s, 1)));
                }
            }
        }
        sentence(TERMS, "BEND of a LONG one: its PLANE's way times (scalar) its middle way.");
        for (int seed = 1; seed <= 300; seed++) {
            Sky sky = new Sky(seed, 1, 4);
            for (int s = 0; s < 4; s++) {
                long due = sky.kinds[0][s] != 1 ? KIND : !sky.hasPlane(0, s) ? NONE : dot(sky.plane(0, s), sky.way(0, s, 2));
                is("BEND", due, sky.light.about(0, s, 5));
            }
        }
    }

    private static Q[] told(Sky sky, int s, int t, boolean end) {
        Q[] point = new Q[3];
        for (int axis = 0; axis < 3; axis++) {
            point[axis] = fraction(sky.light.point(0, s, t, end, axis, false), sky.light.point(0, s, t, end, axis, true));
        }
        return point;
    }

    private static void points() {
        sentence(TERMS, "POINTS of a METEOR, by SIGHTS s and t (unlike ones, t with a PLANE): BEGIN by s:"
                + " the point on the ray of s (from its station along its BEGIN way,");
        int[] met = new int[2];
        pairs(250, (sky, s, t, what) -> met[onRayAndInPlane(sky, s, t, false, what) ? 1 : 0]++);
        sentence(TERMS, "that is in the PLANE of t (through its station); END likewise.");
        pairs(250, (sky, s, t, what) -> met[onRayAndInPlane(sky, s, t, true, what) ? 1 : 0]++);
        is("both come often", 1, met[0] > 500 && met[1] > 500 ? 1 : 0);
    }

    private static boolean onRayAndInPlane(Sky sky, int s, int t, boolean end, String what) {
        long[] way = sky.way(0, s, end ? 1 : 0);
        long[] plane = sky.plane(0, t);
        long due = sky.kinds[0][s] == 2 ? KIND : dot(plane, way) == 0 ? NONE : 0;
        if (due != 0) {
            is(what, due, sky.light.point(0, s, t, end, 2, false));
            return false;
        }
        Q[] point = told(sky, s, t, end);
        Q[] along = new Q[3];
        Q off = Q.of(0);
        for (int k = 0; k < 3; k++) {
            along[k] = point[k].minus(Q.of(sky.stationOf(0, s)[k]));
            off = off.plus(point[k].minus(Q.of(sky.stationOf(0, t)[k])).times(Q.of(plane[k])));
        }
        is(what + ": in the plane", 0, off.isZero() ? 0 : 1);
        isAlong(what, along, way);
        return true;
    }

    private static void isAlong(String what, Q[] steps, long[] way) {
        for (int k = 0; k < 3; k++) {
            int n = (k + 1) % 3;
            Q off = steps[k].times(Q.of(way[n])).minus(steps[n].times(Q.of(way[k])));
            is(what + ": along its way", 0, off.isZero() ? 0 : 1);
        }
    }

    private static void falls() {
        sentence(TERMS, "THE FALL of s and t, both with PLANES: PLANE of s x PLANE of t; there is none if that is (0, 0, 0).");
        pairs(250, (sky, s, t, what) -> {
            long[] due = cross(sky.plane(0, s), sky.plane(0, t));
            for (int axis = 0; axis < 3; axis++) {
                is(what, isNought(due) ? NONE : due[axis], sky.light.fall(0, s, t, axis));
            }
            if (!isNought(due)) {
                long[] told = {sky.light.fall(0, s, t, 0), sky.light.fall(0, s, t, 1), sky.light.fall(0, s, t, 2)};
                is(what + ": lies in both planes", 0, Math.abs(dot(told, sky.plane(0, s))) + Math.abs(dot(told, sky.plane(0, t))));
            }
        });
    }

    private static void angles() {
        sentence(TERMS, "ANGLE of two SIGHTS with PLANES: the square of the scalar product of their PLANES' ways,"
                + " by the product of that of each with itself.");
        pairs(250, (sky, s, t, what) -> {
            long above = sky.light.angle(0, s, t, false);
            long below = sky.light.angle(0, s, t, true);
            if (!sky.hasPlane(0, s) || !sky.hasPlane(0, t)) {
                is(what, NONE, above);
                is(what, NONE, below);
                return;
            }
            long[] a = sky.plane(0, s);
            long[] b = sky.plane(0, t);
            Q due = Q.of(dot(a, b)).times(Q.of(dot(a, b))).by(Q.of(dot(a, a)).times(Q.of(dot(b, b))));
            isFraction(what, due.tell(false), due.tell(true), above, below);
            is(what + ": 0 to 1", 1, above >= 0 && above <= below ? 1 : 0);
        });
    }

    /** By what point(), fall() and angle() answer. */
    private static void bestPairs() {
        sentence(TERMS, "BEST PAIR of a METEOR: s (not BLURRED) and t, both with PLANES, of the least ANGLE,"
                + " of several the least s, then t; only such with a FALL and a BEGIN point.");
        for (int seed = 1; seed <= 400; seed++) {
            FallingLight x = new Sky(seed, 1, 4).light;
            long due = NONE;
            Q least = Q.of(2);
            for (int pair = 0; pair < 16; pair++) {
                int s = pair / 4;
                int t = pair % 4;
                if (s != t && x.point(0, s, t, false, 0, false) >= LOW && x.fall(0, s, t, 0) >= LOW) {
                    Q angle = fraction(x.angle(0, s, t, false), x.angle(0, s, t, true));
                    if (angle.compare(least) < 0) {
                        least = angle;
                        due = 10 * s + t;
                    }
                }
            }
            is("seed " + seed, due, x.best(0));
        }
    }

    private static void landings() {
        sentence(TERMS, "3. LANDING by s and t: the point of height (z) 0 on the line through the BEGIN point by s, along THE FALL.");
        int[] landed = new int[2];
        pairs(250, (sky, s, t, what) -> {
            FallingLight x = sky.light;
            long begin = x.point(0, s, t, false, 0, false);
            boolean comesDown = begin >= LOW && x.fall(0, s, t, 2) >= LOW && x.fall(0, s, t, 2) != 0;
            landed[comesDown ? 1 : 0]++;
            if (!comesDown) {
                is(what, begin == KIND ? KIND : NONE, x.land(0, s, t, true, false));
                return;
            }
            Q[] from = told(sky, s, t, false);
            Q[] steps = {
                fraction(x.land(0, s, t, false, false), x.land(0, s, t, false, true)).minus(from[0]),
                fraction(x.land(0, s, t, true, false), x.land(0, s, t, true, true)).minus(from[1]),
                Q.of(0).minus(from[2])};
            isAlong(what, steps, new long[] {x.fall(0, s, t, 0), x.fall(0, s, t, 1), x.fall(0, s, t, 2)});
        });
        is("both come often", 1, landed[0] > 300 && landed[1] > 300 ? 1 : 0);
    }

    private static void drifts() {
        sentence(TERMS, "DRIFT from a height h (0 .. 100, a fraction):"
                + " the sum over layers of the drift times how much of the layer is below h.");
        int[] drifted = new int[2];
        pairs(400, (sky, s, t, what) -> {
            if (sky.light.point(0, s, t, true, 2, false) < LOW) {
                return;
            }
            Q height = told(sky, s, t, true)[2];
            boolean fits = height.compare(Q.of(0)) >= 0 && height.compare(Q.of(100)) <= 0;
            drifted[fits ? 1 : 0]++;
            for (int axis = 0; axis < 2; axis++) {
                Q due = driftBelow(height, sky.winds, axis);
                isFraction(what, fits ? due.tell(false) : SIZE, fits ? due.tell(true) : SIZE,
                        sky.light.drift(0, s, t, axis == 1, false), sky.light.drift(0, s, t, axis == 1, true));
            }
        });
        is("both come often", 1, drifted[0] > 300 && drifted[1] > 300 ? 1 : 0);
    }

    /** What is below h of 0 to the layer's top, less what is of 0 to its foot. */
    private static Q driftBelow(Q height, int[][] winds, int axis) {
        Q sum = Q.of(0);
        for (int k = 0; k < 10; k++) {
            Q top = height.compare(Q.of(10 * k + 10)) < 0 ? height : Q.of(10 * k + 10);
            Q foot = height.compare(Q.of(10 * k)) < 0 ? height : Q.of(10 * k);
            sum = sum.plus(top.minus(foot).times(Q.of(winds[k][axis])));
        }
        return sum;
    }

    private static void radiants() {
        sentence(TERMS, "A RADIANT of two METEORS: the way PLANE x PLANE of their first SIGHTS with PLANES.");
        for (int seed = 1; seed <= 150; seed++) {
            Sky sky = new Sky(seed, 6, 2);
            for (int pair = 0; pair < 36; pair++) {
                if (pair / 6 != pair % 6) {
                    long[] due = radiant(sky, pair / 6, pair % 6);
                    for (int axis = 0; axis < 3; axis++) {
                        is("seed " + seed, due == null ? NONE : due[axis], sky.light.radiant(pair / 6, pair % 6, axis));
                    }
                }
            }
        }
        sentence(TERMS, "SHOWER of two METEORS: all METEORS of which each SIGHT with a PLANE (one at least)"
                + " has a scalar product 0 of its PLANE's way with that RADIANT.");
        int[] size = new int[7];
        for (int seed = 1; seed <= 300; seed++) {
            Sky sky = new Sky(seed, 6, 1 + seed % 2);
            for (int pair = 0; pair < 36; pair++) {
                if (pair / 6 != pair % 6) {
                    long due = shower(sky, radiant(sky, pair / 6, pair % 6));
                    size[due == NONE ? 0 : Long.bitCount(due)]++;
                    is("seed " + seed, due, sky.light.shower(pair / 6, pair % 6));
                }
            }
        }
        is("showers of more than the two come, too", 1, size[3] > 50 && size[4] > 10 ? 1 : 0);
        is("and such as leave out one of the two", 1, size[1] > 50 ? 1 : 0);
    }

    private static long[] radiant(Sky sky, int a, int b) {
        long[] first = firstPlane(sky, a);
        long[] second = firstPlane(sky, b);
        if (first == null || second == null || isNought(cross(first, second))) {
            return null;
        }
        return cross(first, second);
    }

    private static long[] firstPlane(Sky sky, int m) {
        for (int s = 0; s < sky.kinds[m].length; s++) {
            if (sky.hasPlane(m, s)) {
                return sky.plane(m, s);
            }
        }
        return null;
    }

    private static long shower(Sky sky, long[] radiant) {
        if (radiant == null) {
            return NONE;
        }
        long bits = 0;
        for (int m = 0; m < 6; m++) {
            boolean all = firstPlane(sky, m) != null;
            for (int s = 0; s < sky.kinds[m].length; s++) {
                all &= dot(sky.plane(m, s), radiant) == 0;
            }
            bits |= all ? 1L << m : 0;
        }
        return bits;
    }
}
