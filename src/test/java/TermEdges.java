/** Boundary cases of the terms, as far as they are of findings, fractions, stars and spots. */
final class TermEdges extends Edges {
    private TermEdges() {
    }

    static void all() {
        manyCalls();
        findings();
        orderOfStars();
        orderOfSights();
        orderOfWorked();
        nothingChanges();
        fractionsOfPlace();
        fractionsOfSights();
        triangles();
        turns();
        like();
        votes();
        match();
        table();
    }

    /** Four matched spots in a line; those off it are two at one point, of which neither has a match. */
    static FallingLight matchedInLine() {
        FallingLight x = new FallingLight();
        stars(x, 10, 10, 50, 30, 130, 70, 170, 90, 20, 120);
        spots(x, 10, 10, 50, 30, 130, 70, 170, 90, 20, 120, 20, 120);
        return x;
    }

    private static void manyCalls() {
        sentence(TERMS, "An object is used for at most 512 calls after it has been made;");
        FallingLight x = new FallingLight();
        for (int k = 0; k < 511; k++) {
            x.found(0);
        }
        is("the 512th call", 511, x.found(1));
        FallingLight y = new FallingLight();
        for (int k = 0; k < 63; k++) {
            is("a sight comes", 0, sight(y, 0, 0, 0, 1, 0, 0, 0, 1, 0));
            is("and goes", 0, y.drop(0));
        }
        is("none is left", 0, y.count(3));
        FallingLight z = World.full();
        for (int k = 0; k < 200; k++) {
            z.near(k % 100);
            z.matched();
        }
        is("T behind all that", 99, z.near(5));
    }

    private static void findings() {
        sentence(TERMS, "FINDINGS are answers below -10 to the 18: LOW is -1000000000000000000;"
                + " LOW - 1 BEYOND, LOW - 2 NONE, LOW - 3 KIND, LOW - 4 FULL, LOW - 5 SIZE.");
        is("BEYOND", -1000000000000000001L, World.rich().star(200, 0));
        is("NONE", -1000000000000000002L, World.rich().drop(3));
        is("KIND", -1000000000000000003L, World.rich().as(0, 0, 2));
        is("FULL", -1000000000000000004L, World.full().tell(1));
        is("SIZE", -1000000000000000005L, World.rich().row(0, -2));
    }

    private static void orderOfStars() {
        sentence(TERMS, "Each act tells its findings in the order in which they are asked;");
        refusedIn(World::full, "star: BEYOND before FULL", BEYOND, x -> x.star(200, 0), x -> x.star(0, -1));
        refusedIn(World::full, "spot: BEYOND before FULL", BEYOND, x -> x.spot(200, 0), x -> x.spot(0, -1));
        refused("row: BEYOND before SIZE", BEYOND, x -> x.row(2, -2), x -> x.row(-1, MIN));
        refused("put: NONE before BEYOND", NONE, x -> x.put(1, 24, 0), x -> x.put(1, -1, 0));
        refused("load: BEYOND before SIZE", BEYOND, x -> x.load(2, 0, -1, true), x -> x.load(-1, 0, 1, false));
        refused("load: NONE before SIZE", NONE, x -> x.load(1, 0, 1, true), x -> x.load(1, 0, -2, false));
        refused("load: NONE before BEYOND", NONE, x -> x.load(1, -1, 2, true), x -> x.load(1, 25, 2, false));
        refused("load: SIZE before BEYOND", SIZE, x -> x.load(0, -1, 3, true), x -> x.load(0, 11, -2, false),
                x -> x.load(0, 7, 1, false));
        refusedIn(TermEdges::spoiltRow, "load: BEYOND before FULL", BEYOND, x -> x.load(1, 0, 24, false),
                x -> x.load(1, 2, 24, false), x -> x.load(1, -1, 24, false));
        refusedIn(TermEdges::spoiltRow, "load: SIZE before FULL", SIZE, x -> x.load(1, 0, 23, false));
        is("load: the same without the spoilt place", FULL, spoiltRow().load(1, 0, 22, false));
        refusedIn(World::full, "corner: BEYOND before NONE", BEYOND, x -> x.corner(6, 7, 0, 4, true),
                x -> x.corner(6, 7, 12, 0, true), x -> x.corner(8, 9, 0, -1, false), x -> x.corner(8, 9, 9, 0, false));
        refusedIn(FallingLight::new, "table: BEYOND before NONE", BEYOND, x -> x.table(3), x -> x.table(-1));
        refusedIn(FallingLight::new, "place: BEYOND before NONE", BEYOND, x -> x.place(200, 0, false, false),
                x -> x.place(0, -1, true, true));
    }

    /** Row 1 has 24 places, all good but the last. */
    private static FallingLight spoiltRow() {
        FallingLight x = World.rich();
        int[] places = new int[24];
        for (int k = 0; k < 24; k++) {
            places[k] = k == 23 ? 200 : 7 * k;
        }
        row(x, 1, places);
        return x;
    }

    private static void orderOfSights() {
        refused("sight: no meteor before SIZE", BEYOND, x -> x.sight(6, 0, 0), x -> x.sight(0, 3, 0), x -> x.sight(0, 0, 4));
        FallingLight x = World.rich();
        x.check();
        is("SIZE before a way", SIZE, sight(x, 3, 0, 0, 1, 2, 3, 4, 10));
        is("SIZE before a way of nine", SIZE, sight(x, 3, 0, 0, 0, 0, 0, 0, 0, 0, 0, 0, 0));
        is("SIZE before FULL", SIZE, sight(x, 0, 0, 0, 1, 2, 3, 4, 5));
        is("a way before FULL", BEYOND, sight(x, 0, 0, 0, 1, 2, 3, 4, 5, -10));
        is("a way of 0 before FULL", BEYOND, sight(x, 0, 1, 0, 1, 2, 3, 4, 5, 6, 0, 0, 0));
        tape(x, 0, 0, 0, 10, 10, 10);
        is("no kind before a way and FULL", BEYOND, x.sight(0, 3, 0));
        is("that leaves the tape", 6, x.count(2));
        refused("about: BEYOND before KIND and NONE", BEYOND, w -> w.about(1, 1, 6), w -> w.about(0, 3, -1));
        refused("about: KIND before NONE", KIND, w -> w.about(1, 1, 5), w -> w.about(2, 0, 5));
        refused("as: BEYOND before KIND", BEYOND, w -> w.as(0, 0, 3), w -> w.as(0, 2, -1));
    }

    private static void orderOfWorked() {
        refused("point: BEYOND before KIND and NONE", BEYOND, x -> x.point(0, 2, 3, false, 3, false),
                x -> x.point(0, 2, 2, true, 0, false), x -> x.point(0, 2, 4, true, 0, false), x -> x.point(0, 0, 3, true, -1, false));
        refused("point: KIND before NONE", KIND, x -> x.point(0, 2, 3, false, 0, false), x -> x.point(0, 2, 3, true, 2, true));
        refused("fall: BEYOND before NONE", BEYOND, x -> x.fall(0, 0, 3, 3), x -> x.fall(0, 3, 3, 0), x -> x.fall(0, 3, 4, 0));
        refused("angle: BEYOND before NONE", BEYOND, x -> x.angle(0, 3, 3, false), x -> x.angle(1, 1, 2, true));
        refused("land: BEYOND before KIND", BEYOND, x -> x.land(0, 2, 2, false, false), x -> x.land(0, 2, 4, true, false));
        refused("land: KIND before NONE", KIND, x -> x.land(0, 2, 3, false, false), x -> x.land(0, 2, 3, true, true));
        refused("drift: BEYOND before KIND", BEYOND, x -> x.drift(0, 2, 2, false, false), x -> x.drift(0, 2, -1, true, true));
        refused("drift: KIND before NONE", KIND, x -> x.drift(0, 2, 3, false, false));
        FallingLight high = SightEdges.tower(99, 2, 1);
        sight(high, 0, 2, 0, 0, 1, 1, 1, 0, 2);
        is("drift: too high", SIZE, high.drift(0, 0, 1, false, false));
        is("drift: KIND before SIZE", KIND, high.drift(0, 2, 1, false, false));
        refused("radiant: BEYOND before NONE", BEYOND, x -> x.radiant(2, 3, 3), x -> x.radiant(3, 3, 0), x -> x.radiant(4, 5, -1));
        refused("shower: BEYOND before NONE", BEYOND, x -> x.shower(3, 3), x -> x.shower(2, 6), x -> x.shower(-1, 2));
    }

    private static void nothingChanges() {
        sentence(TERMS, "one that answers a finding changes nothing but what found() tells.");
        FallingLight x = World.rich();
        FallingLight twin = World.rich();
        Act[] acts = {
            w -> w.star(200, 5), w -> w.spot(5, 200), w -> w.row(0, 25), w -> w.row(0, -2), w -> w.row(2, 0),
            w -> w.put(0, 10, 5), w -> w.put(1, 0, 5), w -> w.load(0, 0, 10, true), w -> w.load(0, 0, 3, false),
            w -> w.load(1, 0, 0, true), w -> w.near(100), w -> w.corner(0, 1, 2, 4, true), w -> w.votes(5, 0),
            w -> w.match(4), w -> w.match(5), w -> w.table(3), w -> w.place(200, 0, true, true),
            w -> w.station(0, 100, 5, 5), w -> w.station(1, 5, 100, 5), w -> w.station(2, 5, 5, 10),
            w -> w.sight(6, 0, 0), w -> w.sight(3, 3, 0), w -> w.sight(3, 0, 4), w -> w.drop(3), w -> w.drop(6),
            w -> w.about(0, 3, 2), w -> w.about(0, 0, 5), w -> w.as(0, 0, 1), w -> w.point(0, 2, 0, true, 0, true),
            w -> w.fall(0, 0, 3, 0), w -> w.angle(0, 0, 3, true), w -> w.best(3), w -> w.land(0, 0, 3, true, true),
            w -> w.wind(0, 10, 5), w -> w.wind(1, 5, -10), w -> w.wind(10, 5, 5), w -> w.drift(0, 0, 3, true, true),
            w -> w.radiant(4, 5, 0), w -> w.shower(4, 5), w -> w.count(9), w -> w.found(6)};
        for (int k = 0; k < acts.length; k++) {
            is("act " + k + " answers a finding", 1, acts[k].on(x) < LOW ? 1 : 0);
        }
        long all = 0;
        for (int k = 1; k <= 5; k++) {
            all += x.found(k) - twin.found(k);
        }
        is("all are found", acts.length, all);
        same("refused acts", x, twin);
    }

    /** X is (u - 10) / 3, Y is (v - 10) / 3; the spots are told in turns of both signs. */
    private static void fractionsOfPlace() {
        sentence(TERMS, "A FRACTION is told by its number above (below false) or below the line (below true),"
                + " in lowest terms, the lower one above 0; of 0: 0 and 1.");
        int[][] orders = {{10, 10, 160, 25, 55, 175, 190, 190}, {160, 25, 10, 10, 55, 175, 190, 190}};
        for (int[] order : orders) {
            FallingLight x = new FallingLight();
            stars(x, 0, 0, 50, 5, 15, 55, 60, 60);
            spots(x, order);
            isFraction("-10/3", -10, 3, x.place(0, 10, false, false), x.place(0, 10, false, true));
            isFraction("0, x", 0, 1, x.place(10, 0, false, false), x.place(10, 0, false, true));
            isFraction("0, y", 0, 1, x.place(0, 10, true, false), x.place(0, 10, true, true));
            isFraction("1", 1, 1, x.place(13, 0, false, false), x.place(13, 0, false, true));
            isFraction("-1", -1, 1, x.place(10, 7, true, false), x.place(10, 7, true, true));
            isFraction("1/3", 1, 3, x.place(10, 11, true, false), x.place(10, 11, true, true));
            isFraction("63", 63, 1, x.place(199, 10, false, false), x.place(199, 10, false, true));
        }
    }

    private static void fractionsOfSights() {
        int[][] towers = {{1, 1, -3, -1, 3}, {-1, 1, -3, 1, 3}, {1, -1, -3, 1, 3}, {0, 5, -3, 0, 1}, {6, 2, 8, 3, 2}, {6, 2, -4, -3, 1}, {5, 1, -1, -5, 1}};
        for (int[] t : towers) {
            FallingLight x = SightEdges.tower(t[0], t[1], t[2]);
            isFraction("point", t[3], t[4], x.point(0, 0, 1, true, 2, false), x.point(0, 0, 1, true, 2, true));
        }
        FallingLight x = new FallingLight();
        x.station(1, 7, 0, 0);
        sight(x, 0, 0, 0, 1, 1, 3, 1, 2, 2);
        sight(x, 0, 0, 1, 0, 1, 3, 1, 1, 2);
        // PLANES (-4, 1, 1) and (-1, 3, -1): 36/(18 11); FALL by 0, 1 is (-4, -5, -11), by 1, 0 (4, 5, 11).
        isFraction("angle", 2, 11, x.angle(0, 0, 1, false), x.angle(0, 0, 1, true));
        isFraction("land by 0, 1", -7, 11, x.land(0, 0, 1, false, false), x.land(0, 0, 1, false, true));
        isFraction("land by 1, 0", -7, 11, x.land(0, 1, 0, false, false), x.land(0, 1, 0, false, true));
        isFraction("land by 0, 1, y", -28, 11, x.land(0, 0, 1, true, false), x.land(0, 0, 1, true, true));
        isFraction("land by 1, 0, y", -28, 11, x.land(0, 1, 0, true, false), x.land(0, 1, 0, true, true));
        x.station(1, 0, 0, 0);
        isFraction("land at 0", 0, 1, x.land(0, 0, 1, false, false), x.land(0, 0, 1, false, true));
        isFraction("land at 0 by 1, 0", 0, 1, x.land(0, 1, 0, true, false), x.land(0, 1, 0, true, true));
        FallingLight y = SightEdges.tower(14, 1, 3);
        isFraction("no drift from 14/3", 0, 1, y.drift(0, 0, 1, false, false), y.drift(0, 0, 1, false, true));
        y.wind(0, -9, -8);
        isFraction("drift -42", -42, 1, y.drift(0, 0, 1, false, false), y.drift(0, 0, 1, false, true));
        isFraction("drift -112/3", -112, 3, y.drift(0, 0, 1, true, false), y.drift(0, 0, 1, true, true));
        FallingLight z = new FallingLight();
        sight(z, 0, 0, 0, 1, 0, 0, 0, 1, 0);
        sight(z, 0, 0, 0, 0, 9, 0, 0, 0, 9);
        sight(z, 0, 0, 0, 9, 0, 0, 0, 9, 0);
        isFraction("angle 0", 0, 1, z.angle(0, 0, 1, false), z.angle(0, 0, 1, true));
        isFraction("angle 1", 1, 1, z.angle(0, 0, 2, false), z.angle(0, 0, 2, true));
    }

    private static void triangles() {
        sentence(TERMS, "two STARS, or two SPOTS, may be at one point");
        FallingLight x = new FallingLight();
        is("a star", 0, x.star(7, 7));
        is("another at its point", 1, x.star(7, 7));
        is("a spot there", 0, x.spot(7, 7));
        is("another spot there", 1, x.spot(7, 7));
        row(x, 0, 9, 9, 9, 9, 9, 9);
        is("three at one point", 3, x.load(0, 0, 6, true));
        sentence(TERMS, "it is GOOD if no two of these are alike, and its points aren't in a line.");
        FallingLight y = new FallingLight();
        stars(y, 100, 100, 110, 100, 104, 108, 105, 103, 120, 100, 104, 107);
        is("the two shorter ones alike (34, 34, 100)", NONE, y.corner(0, 1, 3, 0, true));
        is("the two longer ones alike (80, 100, 100)", NONE, y.corner(0, 1, 2, 0, true));
        is("in a line and two alike (100, 100, 400)", NONE, y.corner(0, 1, 4, 0, true));
        is("none alike (65, 85, 100): FIRST", 1, y.corner(0, 1, 5, 0, true));
        is("SECOND", 0, y.corner(0, 1, 5, 1, true));
        is("THIRD", 5, y.corner(0, 1, 5, 2, true));
        is("TURN", -1, y.corner(0, 1, 5, 3, true));
        stars(y, 30, 30, 33, 31, 39, 33);
        is("in a line with unlike sides", NONE, y.corner(6, 7, 8, 0, true));
    }

    private static void turns() {
        sentence(TERMS, "its TURN is 1 if (SECOND - FIRST) x (THIRD - FIRST), the first one's x by the second one's y"
                + " less its y by the second one's x, is above 0, else -1.");
        FallingLight x = new FallingLight();
        // Squares 100 of 01, 25 of 02, 65 of 12: FIRST 1, SECOND 0, THIRD 2.
        stars(x, 100, 100, 110, 100, 103, 104, 103, 96);
        is("FIRST", 1, x.corner(0, 1, 2, 0, true));
        // (-10, 0) x (-7, 4) is -40, and with y 96 it is 40.
        is("below 0", -1, x.corner(0, 1, 2, 3, true));
        is("above 0", 1, x.corner(0, 1, 3, 3, true));
        is("the least above 0", 1, least().corner(0, 1, 2, 3, true));
        is("the least below 0", -1, least().corner(0, 1, 2, 3, false));
    }

    /** Squares 5 of 01, 34 of 02, 13 of 12; (-5, -3) x (-3, -2) is 1, mirrored -1. */
    private static FallingLight least() {
        FallingLight x = new FallingLight();
        stars(x, 0, 0, 2, 1, 5, 3);
        spots(x, 0, 0, 1, 2, 3, 5);
        return x;
    }

    private static void like() {
        sentence(TERMS, "and for the squares a < b < c of one and A < B < C of the other |a C - A c| times 100"
                + " is not above T c C, and |b C - B c| times 100 isn't either.");
        // 13, 793, 900 and 58, 778, 900: 4050000 and 1350000 by 810000.
        likeFrom("a is just near enough", 5, new int[] {0, 0, 30, 0, 2, 3}, new int[] {0, 0, 30, 0, 3, 7});
        // 5, 845, 900 and 20, 800, 900: 1350000 and 4050000 by 810000.
        likeFrom("b is just near enough", 5, new int[] {0, 0, 30, 0, 1, 2}, new int[] {0, 0, 30, 0, 2, 4});
        // 5, 325, 400 and 45, 325, 400: 1600000 and 0 by 160000.
        likeFrom("a alone is off", 10, new int[] {0, 0, 20, 0, 2, 1}, new int[] {0, 0, 20, 0, 3, 6});
        // 5, 365, 400 and 5, 325, 400.
        likeFrom("b alone is off", 10, new int[] {0, 0, 20, 0, 1, 2}, new int[] {0, 0, 20, 0, 2, 1});
        // 281, 1481, 1600 and 314, 2314, 2500: 20010000 and 10000 by 4000000, so 5.0025.
        likeFrom("a is hardly off", 6, new int[] {0, 0, 40, 0, 5, 16}, new int[] {0, 0, 50, 0, 5, 17});
        // 185, 905, 1600 and 289, 1289, 2500: 10000 and 20010000 by 4000000.
        likeFrom("b is hardly off", 6, new int[] {0, 0, 40, 0, 11, 8}, new int[] {0, 0, 50, 0, 15, 8});
        // 37970, 38025, 38165 and 1, 81, 82: 307537500 by 3129530 is 98.3.
        likeFrom("T 99", 99, new int[] {0, 0, 195, 0, 98, 169}, new int[] {0, 0, 9, 0, 9, 1});
        // .. and 1, 225, 226: 854305500 by 8625290 is 99.05.
        likeFrom("never", 100, new int[] {0, 0, 195, 0, 98, 169}, new int[] {0, 0, 15, 0, 15, 1});
        likeFrom("exactly alike", 0, new int[] {0, 0, 20, 0, 0, 10}, new int[] {50, 50, 60, 60, 45, 55});
        sentence(TERMS, "Two GOOD ones are LIKE, by T (0 .. 99; 5 at first), if their TURNS are alike,");
        FallingLight x = new FallingLight();
        spots(x, 0, 0, 30, 0, 2, 3);
        stars(x, 0, 100, 30, 100, 2, 97);
        x.near(99);
        is("mirrored, T 99", 0, x.votes(0, 0) + x.votes(1, 1) + x.votes(2, 2));
    }

    /** Two triangles, told either way round, are LIKE by T and not by T - 1. */
    private static void likeFrom(String what, int t, int[] one, int[] other) {
        for (int way = 0; way < 2; way++) {
            FallingLight x = new FallingLight();
            spots(x, way == 0 ? one : other);
            stars(x, way == 0 ? other : one);
            if (t > 0) {
                x.near(t - 1);
                is(what + ": not by " + (t - 1), 0, allVotes(x));
            }
            if (t < 100) {
                x.near(t);
                is(what + ": by " + t, 3, allVotes(x));
            }
        }
    }

    private static long allVotes(FallingLight x) {
        long sum = 0;
        for (int p = 0; p < x.count(1); p++) {
            for (int q = 0; q < x.count(0); q++) {
                sum += x.votes(p, q);
            }
        }
        return sum;
    }

    /** STAR 0 is a MATCH like any other, at each place of the table. */
    private static void starNought() {
        int[][] orders = {{5, 5, 55, 10, 20, 60, 75, 75}, {55, 10, 5, 5, 20, 60, 75, 75}, {55, 10, 20, 60, 5, 5, 75, 75}};
        for (int[] order : orders) {
            FallingLight x = new FallingLight();
            stars(x, 10, 10, 110, 20, 40, 120, 150, 150);
            spots(x, order);
            for (int k = 0; k < 3; k++) {
                is("table(" + k + ") with star 0", k, x.table(k));
            }
            is("place with star 0", 10, x.place(5, 5, true, false));
        }
    }

    private static void votes() {
        sentence(TERMS, "VOTES of a SPOT and a STAR: the pairs of LIKE TRIANGLES, of SPOTS and of STARS,"
                + " in which they are the same CORNER.");
        FallingLight x = new FallingLight();
        spots(x, 5, 15, 15, 10, 25, 20);
        stars(x, 20, 0, 25, 20, 5, 0, 15, 5);
        x.near(20);
        long[][] due = {{1, 0, 2, 0}, {1, 0, 0, 2}, {0, 2, 1, 0}};
        for (int p = 0; p < 3; p++) {
            for (int q = 0; q < 4; q++) {
                is("votes(" + p + ", " + q + ")", due[p][q], x.votes(p, q));
            }
        }
        FallingLight y = new FallingLight();
        spots(y, 5, 15, 15, 10);
        stars(y, 5, 15, 15, 10, 25, 20);
        is("two spots, no triangle", 0, allVotes(y));
        y.spot(25, 20);
        is("three spots, three stars", 3, allVotes(y));
        y.clear(true);
        stars(y, 5, 15, 15, 10);
        is("two stars, no triangle", 0, allVotes(y));
        fullVotes(0);
        fullVotes(2);
    }

    /** 12 stars make 220 triangles, all GOOD; 10 spots at the places of as many of them make 120. */
    private static void fullVotes(int first) {
        FallingLight x = new FallingLight();
        stars(x, SCATTERED);
        for (int k = first; k < first + 10; k++) {
            x.spot(SCATTERED[2 * k], SCATTERED[2 * k + 1]);
        }
        x.near(0);
        for (int k = 0; k < 10; k++) {
            is("each spot is in 36 triangles", 36, x.votes(k, k + first));
            is("and has no votes with the next star", 0, x.votes(k, (k + first + 1) % 12));
        }
    }

    private static void match() {
        sentence(TERMS, "MATCH of a SPOT: the STAR with which it has the most VOTES (2 at least, and more than with any other),"
                + " if that STAR has more VOTES with it than with any other SPOT.");
        FallingLight x = new FallingLight();
        spots(x, 5, 15, 15, 10, 25, 20);
        stars(x, 20, 0, 25, 20, 5, 0, 15, 5);
        x.near(20);
        is("2 votes, 1 with another star, 1 of another spot", 2, x.match(0));
        is("2 votes, 1 with another star", 3, x.match(1));
        is("2 votes, none of another spot", 1, x.match(2));
        x.clear(true);
        stars(x, 5, 15, 15, 10, 25, 20);
        is("1 vote", 1, x.votes(0, 0));
        is("1 vote isn't enough", NONE, x.match(0));
        FallingLight y = new FallingLight();
        spots(y, 10, 0, 10, 10, 5, 0, 10, 25);
        stars(y, 15, 5, 0, 5, 15, 25, 5, 5);
        y.near(20);
        is("3 votes with star 2", 2, y.match(1));
        is("2 votes with star 2", 2, y.votes(3, 2));
        is("that star has more with spot 1", NONE, y.match(3));
        is("3 with one, 2 with another", 0, y.match(0));
        FallingLight z = new FallingLight();
        spots(z, 25, 15, 10, 5, 25, 10);
        stars(z, 0, 20, 5, 0, 10, 0, 5, 20);
        z.near(20);
        is("as many with star 0", 2, z.votes(0, 0));
        is("as with star 2", 2, z.votes(0, 2));
        is("so no match", NONE, z.match(0));
        is("as many with the last star", NONE, z.match(2));
        FallingLight w = new FallingLight();
        spots(w, 0, 20, 25, 0, 25, 10, 0, 25);
        stars(w, 25, 0, 15, 5, 15, 0);
        w.near(20);
        is("star 2 has as many with spot 0", 2, w.votes(0, 2));
        is("as with spot 2", 2, w.votes(2, 2));
        is("so spot 0 has no match", NONE, w.match(0));
        is("nor has spot 2", NONE, w.match(2));
    }

    private static void table() {
        sentence(TERMS, "THE TABLE: of the SPOTS that have a MATCH, the first three by numbers"
                + " (of all threes, in order: the first that aren't in a line):");
        FallingLight x = matchedInLine();
        is("four in a line: no table", NONE, x.table(0));
        x.clear(false);
        spots(x, 10, 10, 50, 30, 130, 70, 170, 90, 20, 120);
        is("a fifth one off the line: the first", 0, x.table(0));
        is("the second", 1, x.table(1));
        is("the third", 4, x.table(2));
        FallingLight y = new FallingLight();
        spots(y, 15, 15, 20, 35, 40, 30, 15, 35, 20, 25);
        stars(y, 35, 5, 15, 5, 0, 0, 0, 35);
        is("two have a match", 2, y.matched());
        is("two are too few", NONE, y.table(0));
        FallingLight z = new FallingLight();
        spots(z, 10, 0, 40, 0, 5, 40, 15, 35);
        stars(z, 25, 35, 25, 5, 30, 0, 35, 20, 30, 35);
        is("three have a match", 3, z.matched());
        is("the first has one", 0, z.table(0));
        is("spot 1 has none", 2, z.table(1));
        is("the last has one", 3, z.table(2));
        is("it takes a spot to its star", 35, z.place(10, 0, false, false));
        is("and another", 5, z.place(15, 35, true, false));
        starNought();
    }
}
