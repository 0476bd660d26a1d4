/** For each promise: ordinary inputs, the edges that the document names, and wrong inputs. */
public final class PromiseTest {
    private static final long LOW = -1000000000000000000L;
    private static final long BEYOND = LOW - 1;
    private static final long NONE = LOW - 2;
    private static final long KIND = LOW - 3;
    private static final long FULL = LOW - 4;
    private static final long SIZE = LOW - 5;
    private static final int MIN = Integer.MIN_VALUE;
    private static final int MAX = Integer.MAX_VALUE;

    private static int wrong = 0;
    private static int asked = 0;

    private static void due(int promise, String what, long want, long got) {
        asked++;
        if (want != got) {
            wrong++;
            System.out.println("promise " + promise + ": " + what + " answered " + got + ", due is " + want);
        }
    }

    private static void stars(FallingLight x, int... places) {
        for (int k = 0; k + 1 < places.length; k += 2) {
            x.star(places[k], places[k + 1]);
        }
    }

    private static void spots(FallingLight x, int... places) {
        for (int k = 0; k + 1 < places.length; k += 2) {
            x.spot(places[k], places[k + 1]);
        }
    }

    private static void tape(FallingLight x, int... numbers) {
        for (int v : numbers) {
            x.tell(v);
        }
    }

    private static long sight(FallingLight x, int meteor, int kind, int station, int... ways) {
        tape(x, ways);
        return x.sight(meteor, kind, station);
    }

    /** Four spots, and five stars at twice their places, the fifth one strange. */
    private static FallingLight plate() {
        FallingLight x = new FallingLight();
        stars(x, 20, 70, 10, 10, 110, 20, 40, 120, 150, 150);
        spots(x, 5, 5, 55, 10, 20, 60, 75, 75);
        return x;
    }

    /** Two sights of meteor 0 from stations 60 apart, of a fall from (12, 24, 60) to (-12, 36, 48). */
    private static FallingLight watch() {
        FallingLight x = new FallingLight();
        x.station(1, 60, 0, 1);
        sight(x, 0, 0, 0, 1, 2, 5, -1, 3, 4);
        sight(x, 0, 0, 1, -4, 2, 5, -6, 3, 4);
        return x;
    }

    private static void newObject() {
        FallingLight x = new FallingLight();
        for (int what = 0; what <= 8; what++) {
            due(1, "count(" + what + ") of a new object", 0, x.count(what));
        }
        for (int k = 1; k <= 5; k++) {
            due(1, "found(" + k + ") of a new object", 0, x.found(k));
        }
        due(1, "T of a new object", 5, x.near(7));
        due(1, "row 0 of a new object is missing", NONE, x.put(0, 0, 0));
        due(1, "row 1 of a new object is missing", NONE, x.load(1, 0, 0, true));
        due(1, "a new object's stations: same place, so BEGIN is there", 0, stationPlace());
        due(1, "another object keeps its own state", 5, new FallingLight().near(1));
        due(1, "no wind", 0, watch().drift(0, 0, 1, false, false));
    }

    private static long stationPlace() {
        FallingLight x = new FallingLight();
        sight(x, 0, 0, 3, 1, 2, 3, 3, 2, 1);
        sight(x, 0, 0, 2, 1, 0, 0, 0, 1, 0);
        return x.point(0, 0, 1, false, 0, false) + x.point(0, 0, 1, false, 1, false) + x.point(0, 0, 1, false, 2, false);
    }

    private static void starAndSpot() {
        FallingLight x = new FallingLight();
        int[][] outside = {{-1, 0}, {0, -1}, {200, 0}, {0, 200}, {MIN, 0}, {0, MAX}};
        for (int[] p : outside) {
            due(2, "star outside", BEYOND, x.star(p[0], p[1]));
            due(3, "spot outside", BEYOND, x.spot(p[0], p[1]));
        }
        for (int k = 0; k < 12; k++) {
            due(2, "star " + k, k, x.star(k % 2 * 199, 199 - k % 2 * 199));
        }
        due(2, "star 12", FULL, x.star(0, 0));
        due(2, "star outside when full", BEYOND, x.star(0, 200));
        due(3, "no spot came", 0, x.count(1));
        for (int k = 0; k < 10; k++) {
            due(3, "spot " + k, k, x.spot(199, 0));
        }
        due(3, "spot 10", FULL, x.spot(0, 0));
        due(3, "spot outside when full", BEYOND, x.spot(-1, 0));
        due(2, "stars stand", 12, x.count(0));
        due(3, "spots stand", 10, x.count(1));
    }

    private static void rowAndPut() {
        FallingLight x = new FallingLight();
        due(4, "row(-1, ..)", BEYOND, x.row(-1, -5));
        due(4, "row(2, ..)", BEYOND, x.row(2, -5));
        due(4, "row below -1", SIZE, x.row(1, -2));
        due(4, "row far below", SIZE, x.row(1, MIN));
        due(4, "row of 25", BEYOND, x.row(1, 25));
        due(4, "row far above", BEYOND, x.row(1, MAX));
        due(5, "still missing", NONE, x.put(1, 0, 3));
        due(4, "row of 24", 24, x.row(1, 24));
        due(5, "row 0 is another one", NONE, x.put(0, 0, 3));
        due(5, "put of no row, first", BEYOND, x.put(2, 99, 3));
        due(5, "put of no row", BEYOND, x.put(-1, 0, 3));
        due(5, "put at 24", BEYOND, x.put(1, 24, 3));
        due(5, "put at -1", BEYOND, x.put(1, -1, 3));
        due(5, "put at 23", 3, x.put(1, 23, 3));
        due(5, "put cast", -32768, x.put(1, 0, 32768));
        due(5, "put cast of all bits", -1, x.put(1, 0, MAX));
        due(5, "put cast to 0", 0, x.put(1, 0, MIN));
        due(5, "put below 0", -1, x.put(1, 0, -1));
        due(4, "row of 0", 0, x.row(0, 0));
        due(5, "a row of 0 has no place", BEYOND, x.put(0, 0, 1));
        x.put(1, 22, 7);
        due(6, "load of what was put", 1, x.load(1, 22, 2, true));
        due(4, "row again", 24, x.row(1, 24));
        due(4, "its places are -1 again", BEYOND, x.load(1, 22, 2, true));
        x.put(1, 0, 7);
        x.put(1, 1, 7);
        x.row(1, 3);
        x.put(1, 1, 7);
        due(4, "its first place, too", BEYOND, x.load(1, 0, 2, true));
        due(4, "row is gone", -1, x.row(1, -1));
        due(5, "put of a missing row, whatever the place", NONE, x.put(1, 99, 1));
        x.row(1, 4);
        x.row(1, 25);
        due(4, "a finding leaves the row", 9, x.put(1, 3, 9));
    }

    private static void load() {
        FallingLight x = new FallingLight();
        spots(x, 1, 1, 2, 2, 3, 3);
        due(6, "no such row comes first", BEYOND, x.load(2, 0, 1, false));
        due(6, "missing comes before size", NONE, x.load(0, 0, 1, false));
        x.row(0, 24);
        due(6, "odd", SIZE, x.load(0, 0, 3, false));
        due(6, "odd and below 0", SIZE, x.load(0, 99, -3, false));
        due(6, "below 0", SIZE, x.load(0, 0, -2, false));
        due(6, "far below 0", SIZE, x.load(0, 0, MIN, false));
        due(6, "too far", BEYOND, x.load(0, 23, 2, false));
        due(6, "from far", BEYOND, x.load(0, MAX, 2, false));
        due(6, "many", BEYOND, x.load(0, 2, MAX - 1, false));
        due(6, "from below", BEYOND, x.load(0, -2, 2, false));
        due(6, "a place is -1", BEYOND, x.load(0, 0, 2, false));
        for (int k = 0; k < 24; k++) {
            x.put(0, k, 199 - k);
        }
        due(6, "no spot has gone", 3, x.count(1));
        due(6, "one place too far", BEYOND, x.load(0, 23, 2, true));
        due(6, "two places too far", BEYOND, x.load(0, 22, 4, true));
        due(6, "from below with good places", BEYOND, x.load(0, -1, 4, true));
        due(6, "11 spots", FULL, x.load(0, 0, 22, false));
        due(6, "12 spots", FULL, x.load(0, 0, 24, false));
        due(6, "10 spots", 10, x.load(0, 4, 20, false));
        due(6, "12 stars", 12, x.load(0, 0, 24, true));
        due(6, "12 stars there", 12, x.count(0));
        due(6, "10 spots there", 10, x.count(1));
        x.put(0, 23, 200);
        due(6, "beyond comes before full", BEYOND, x.load(0, 0, 24, false));
        due(6, "a place outside isn't asked", 1, x.load(0, 20, 2, false));
        x.put(0, 4, 200);
        due(6, "the first place is outside", BEYOND, x.load(0, 4, 2, false));
        x.put(0, 4, -1);
        due(6, "the first place is -1", BEYOND, x.load(0, 4, 2, false));
        due(6, "none", 0, x.load(0, 24, 0, false));
        due(6, "spots gone", 0, x.count(1));
        due(6, "stars stand", 12, x.count(0));
        due(6, "none from behind the end", BEYOND, x.load(0, 25, 0, false));
        loadOrder();
    }

    private static void loadOrder() {
        FallingLight x = new FallingLight();
        int[] places = {5, 50, 10, 20, 60, 75, 7, 3};
        x.row(1, 8);
        for (int k = 0; k < 8; k++) {
            x.put(1, k, places[k]);
        }
        stars(x, 9, 9, 1, 2, 3, 4, 5, 6);
        due(6, "three from the second place on", 3, x.load(1, 1, 6, true));
        // (50, 10), (20, 60), (75, 7): squares 3400 of 01, 634 of 02, 5834 of 12.
        due(6, "FIRST is over against 02", 1, x.corner(0, 1, 2, 0, true));
        due(6, "SECOND is over against 01", 2, x.corner(0, 1, 2, 1, true));
        // (55, -53) x (30, -50) is -1160.
        due(6, "TURN tells x and y in turn", -1, x.corner(0, 1, 2, 3, true));
    }

    private static void clear() {
        FallingLight x = plate();
        due(7, "spots", 4, x.clear(false));
        due(7, "no spots", 0, x.clear(false));
        due(7, "stars stand", 5, x.count(0));
        due(7, "stars", 5, x.clear(true));
        due(7, "stars gone", 0, x.count(0));
        due(7, "a number is given again", 0, x.star(1, 1));
    }

    private static void near() {
        FallingLight x = new FallingLight();
        due(8, "near(-1)", BEYOND, x.near(-1));
        due(8, "near(100)", BEYOND, x.near(100));
        due(8, "near(99)", 5, x.near(99));
        due(8, "near(0)", 99, x.near(0));
        due(8, "near(MIN)", BEYOND, x.near(MIN));
        due(8, "near(3)", 0, x.near(3));
        edgeOfLike();
    }

    /** Squares 900, 1600, 2500 and 100, 225, 325: both differences are 42500, and c C is 812500. */
    private static void edgeOfLike() {
        FallingLight x = new FallingLight();
        spots(x, 0, 0, 40, 0, 0, 30);
        stars(x, 0, 0, 15, 0, 0, 10);
        due(8, "T 5: 4250000 is above 4062500", 0, x.votes(0, 0));
        x.near(6);
        due(8, "T 6: 4250000 isn't above 4875000", 1, x.votes(0, 0));
        otherSides();
        justNear();
    }

    /** The spots' squares are 100, 400, 500, their CORNERS 1, 2, 0 and their TURN 1. */
    private static void otherSides() {
        FallingLight x = new FallingLight();
        spots(x, 0, 0, 20, 0, 0, 10);
        // 40, 90, 130, CORNERS 0, 2, 1, TURN 1: a: |13000 - 20000|, b: |52000 - 45000|, c C is 65000.
        stars(x, 50, 50, 53, 59, 59, 57);
        x.near(10);
        due(8, "T 10: 700000 is above 650000", 0, x.votes(1, 0));
        x.near(11);
        due(8, "T 11: 700000 isn't above 715000", 1, x.votes(1, 0));
        due(10, "SECOND with SECOND", 1, x.votes(2, 2));
        due(10, "THIRD with THIRD", 1, x.votes(0, 1));
        due(10, "FIRST with THIRD", 0, x.votes(1, 1));
        x.clear(true);
        stars(x, 50, 50, 60, 50, 54, 58);
        x.near(99);
        due(8, "100, 80, 100 isn't GOOD, so not LIKE", 0, x.votes(0, 0) + x.votes(1, 0) + x.votes(2, 0));
        x.clear(true);
        stars(x, 50, 50, 60, 60, 45, 55);
        x.near(0);
        due(8, "50, 200, 250 at T 0: exactly alike", 1, x.votes(0, 0));
        x.clear(true);
        stars(x, 50, 50, 60, 60, 45, 56);
        due(8, "a little off at T 0", 0, x.votes(0, 0));
        // 61, 200, 241: a: |24100 - 30500|, b: |96400 - 100000|, c C is 120500: T 5.3 for a, 3 for b.
        x.near(5);
        due(8, "b is near enough, a isn't", 0, x.votes(0, 0));
        x.near(6);
        due(8, "a is near enough, too", 1, x.votes(0, 0));
    }

    /** 100, 400, 500 and 100, 900, 1000: both differences times 100 are 10 times c C. */
    private static void justNear() {
        FallingLight x = new FallingLight();
        spots(x, 0, 0, 20, 0, 0, 10);
        stars(x, 0, 0, 30, 0, 0, 10);
        x.near(9);
        due(8, "T 9: 5000000 is above 4500000", 0, x.votes(0, 0));
        x.near(10);
        due(8, "T 10: 5000000 isn't above 5000000", 1, x.votes(0, 0));
    }

    private static void corner() {
        FallingLight x = plate();
        // Spots 0, 1, 2: squares 2525 of 01, 3250 of 02, 3725 of 12.
        due(9, "FIRST", 2, x.corner(0, 1, 2, 0, false));
        due(9, "SECOND", 1, x.corner(0, 1, 2, 1, false));
        due(9, "THIRD", 0, x.corner(0, 1, 2, 2, false));
        due(9, "TURN", -1, x.corner(0, 1, 2, 3, false));
        due(9, "the order of the three is free", 2, x.corner(2, 0, 1, 0, false));
        due(9, "SECOND, too", 1, x.corner(1, 0, 2, 1, false));
        due(9, "TURN, too", -1, x.corner(1, 0, 2, 3, false));
        due(9, "stars have other numbers", 3, x.corner(1, 2, 3, 0, true));
        due(9, "k 4", BEYOND, x.corner(0, 1, 2, 4, false));
        due(9, "k -1", BEYOND, x.corner(0, 1, 2, -1, false));
        due(9, "a b same", BEYOND, x.corner(1, 1, 2, 0, false));
        due(9, "b c same", BEYOND, x.corner(0, 2, 2, 0, false));
        due(9, "a c same", BEYOND, x.corner(2, 1, 2, 0, false));
        due(9, "no spot 4", BEYOND, x.corner(0, 1, 4, 0, false));
        due(9, "no spot -1", BEYOND, x.corner(-1, 1, 2, 0, false));
        due(9, "no spot at b", BEYOND, x.corner(0, MAX, 2, 0, false));
        // 10100 of 12, 39200 of 14, 18500 of 24; (-140, -140) x (-40, -130) is 12600.
        due(9, "FIRST of stars", 4, x.corner(4, 1, 2, 0, true));
        due(9, "SECOND of stars", 1, x.corner(4, 1, 2, 1, true));
        due(9, "TURN of stars", 1, x.corner(4, 1, 2, 3, true));
        due(9, "no star 5", BEYOND, x.corner(0, 1, 5, 0, true));
        notGood();
    }

    private static void notGood() {
        FallingLight x = new FallingLight();
        stars(x, 0, 0, 10, 10, 30, 30, 20, 0, 0, 0);
        due(9, "in a line", NONE, x.corner(0, 1, 2, 0, true));
        due(9, "two sides alike", NONE, x.corner(0, 1, 3, 0, true));
        due(9, "two at one point", NONE, x.corner(0, 4, 1, 3, true));
        due(9, "beyond comes first", BEYOND, x.corner(0, 1, 2, 4, true));
        due(9, "TURN is 1", 1, x.corner(0, 2, 3, 3, true));
        stars(x, 2, 1, 5, 3);
        // 5 of 05, 13 of 56, 34 of 06; (-5, -3) x (-3, -2) is 1.
        due(9, "hardly a turn", 1, x.corner(0, 5, 6, 3, true));
        due(9, "hardly a triangle", 6, x.corner(0, 5, 6, 0, true));
    }

    private static void votesAndMatches() {
        FallingLight x = plate();
        due(10, "votes of a spot and its star", 2, x.votes(0, 1));
        due(10, "votes of a spot and another star", 0, x.votes(0, 2));
        due(10, "no spot", BEYOND, x.votes(4, 0));
        due(10, "no spot -1", BEYOND, x.votes(-1, 0));
        due(10, "no star", BEYOND, x.votes(0, 5));
        due(10, "no star -1", BEYOND, x.votes(0, -1));
        due(11, "match", 1, x.match(0));
        due(11, "match of another", 4, x.match(3));
        due(11, "no spot 4", BEYOND, x.match(4));
        due(11, "no spot -1", BEYOND, x.match(-1));
        due(12, "matched", 4, x.matched());
        x.spot(100, 1);
        due(11, "a strange spot", NONE, x.match(4));
        due(12, "matched with a strange one", 4, x.matched());
        x.star(0, 199);
        x.near(0);
        due(12, "matched, T 0", 4, x.matched());
        x.clear(true);
        due(12, "no stars", 0, x.matched());
        due(11, "no match without stars", NONE, x.match(0));
        due(10, "no votes without stars", BEYOND, x.votes(0, 0));
        turned();
        ties();
    }

    /** A mirrored plate has triangles alike in sides but not in turns. */
    private static void turned() {
        FallingLight x = new FallingLight();
        stars(x, 10, 10, 20, 110, 120, 40, 150, 150);
        spots(x, 5, 5, 55, 10, 20, 60, 75, 75);
        long sum = 0;
        for (int spot = 0; spot < 4; spot++) {
            for (int star = 0; star < 4; star++) {
                sum += x.votes(spot, star);
            }
        }
        due(10, "mirrored", 0, sum);
    }

    private static void ties() {
        FallingLight x = plate();
        x.star(150, 150);
        due(10, "a star at one point with another", x.votes(3, 4), x.votes(3, 5));
        due(11, "two stars with as many votes", NONE, x.match(3));
        due(11, "the others have more votes", 1, x.match(0));
        due(12, "three are matched", 3, x.matched());
        FallingLight y = plate();
        y.spot(75, 75);
        due(11, "a star with two spots", NONE, y.match(3));
        due(11, "the second spot neither", NONE, y.match(4));
        due(12, "three are matched by that", 3, y.matched());
        FallingLight z = new FallingLight();
        stars(z, 10, 10, 110, 20, 40, 120);
        spots(z, 5, 5, 55, 10, 20, 60);
        due(10, "one triangle, one vote", 1, z.votes(0, 0));
        due(11, "one vote isn't enough", NONE, z.match(0));
        due(12, "one vote isn't enough for any", 0, z.matched());
    }

    private static void table() {
        FallingLight x = plate();
        due(13, "table(0)", 0, x.table(0));
        due(13, "table(1)", 1, x.table(1));
        due(13, "table(2)", 2, x.table(2));
        due(13, "table(3)", BEYOND, x.table(3));
        due(13, "table(-1)", BEYOND, x.table(-1));
        due(14, "x of a spot is its star's", 150, x.place(75, 75, false, false));
        due(14, "y of a spot is its star's", 120, x.place(20, 60, true, false));
        due(14, "far corner", 398, x.place(199, 199, false, false));
        due(14, "0 is 0 and 1", 1, x.place(0, 0, true, true));
        due(14, "u 200", BEYOND, x.place(200, 0, true, true));
        due(14, "v 200", BEYOND, x.place(0, 200, true, true));
        due(14, "u -1", BEYOND, x.place(-1, 0, true, true));
        due(14, "v -1", BEYOND, x.place(0, -1, true, true));
        x.clear(false);
        due(13, "no table", NONE, x.table(0));
        due(13, "beyond comes first", BEYOND, x.table(3));
        due(14, "no table to place by", NONE, x.place(0, 0, true, true));
        due(14, "beyond the plate comes first", BEYOND, x.place(0, 200, true, true));
        tableOfFractions();
        tableInLine();
    }

    /** Spots at three times the stars' places, one off: the table's numbers are thirds, and below 0. */
    private static void tableOfFractions() {
        FallingLight x = new FallingLight();
        stars(x, 0, 0, 50, 5, 15, 55, 60, 60);
        spots(x, 10, 10, 160, 25, 55, 175, 190, 190);
        due(14, "thirds matched", 4, x.matched());
        due(14, "x above", -10, x.place(0, 0, false, false));
        due(14, "x below", 3, x.place(0, 0, false, true));
        due(14, "y above", 59, x.place(199, 187, true, false));
        due(14, "y below", 1, x.place(199, 187, true, true));
    }

    /** The first three matched spots are in a line, the next three in order aren't. */
    private static void tableInLine() {
        FallingLight x = new FallingLight();
        stars(x, 10, 10, 50, 30, 130, 70, 20, 120, 160, 150, 90, 5);
        spots(x, 10, 10, 50, 30, 130, 70, 20, 120, 160, 150, 90, 5);
        due(13, "six are matched", 6, x.matched());
        due(13, "in a line: table(0)", 0, x.table(0));
        due(13, "in a line: table(1)", 1, x.table(1));
        due(13, "in a line: table(2)", 3, x.table(2));
        due(14, "in a line: place", 77, x.place(33, 77, true, false));
    }

    /** Each ask as the first one behind a change: nothing worked out before may be told. */
    private static void firstAsks() {
        due(10, "votes first", 2, plate().votes(3, 4));
        due(11, "match first", 3, plate().match(2));
        due(12, "matched first", 4, plate().matched());
        due(13, "table first", 2, plate().table(2));
        due(14, "place first", 150, plate().place(75, 75, true, false));
        FallingLight x = plate();
        tape(x, 1, 2, 3, 4);
        due(30, "check first", 0, x.check());
        x.clear(false);
        due(14, "place behind clear", NONE, x.place(75, 75, true, false));
        loadSpots(x, 75, 75, 5, 5, 55, 10, 20, 60);
        due(14, "place behind load", 150, x.place(75, 75, true, false));
        loadSpots(x, 5, 5, 75, 75, 20, 60, 55, 10);
        due(11, "match behind load", 4, x.match(1));
        loadSpots(x, 55, 10, 5, 5, 75, 75);
        due(12, "matched behind load", 0, x.matched());
        x.spot(20, 60);
        due(12, "matched behind spot", 4, x.matched());
        x.star(150, 150);
        due(12, "matched behind star", 3, x.matched());
        x.clear(true);
        due(13, "table behind clear", NONE, x.table(0));
    }

    private static void loadSpots(FallingLight x, int... places) {
        x.row(0, places.length);
        for (int k = 0; k < places.length; k++) {
            x.put(0, k, places[k]);
        }
        x.load(0, 0, places.length, false);
    }

    /** Star 0 is a match like any other, wherever its spot stands in the table. */
    private static void starNought() {
        int[][] order = {{5, 5, 55, 10, 20, 60, 75, 75}, {55, 10, 5, 5, 20, 60, 75, 75}, {55, 10, 20, 60, 5, 5, 75, 75}};
        for (int k = 0; k < 3; k++) {
            FallingLight x = new FallingLight();
            stars(x, 10, 10, 110, 20, 40, 120, 150, 150);
            spots(x, order[k]);
            due(11, "star 0 is matched", 0, x.match(k));
            due(12, "all four", 4, x.matched());
            for (int n = 0; n < 3; n++) {
                due(13, "table with star 0", n, x.table(n));
            }
            due(14, "place with star 0", 10, x.place(5, 5, false, false));
        }
        FallingLight y = new FallingLight();
        stars(y, 10, 10, 110, 20, 40, 120, 150, 150);
        spots(y, 100, 1, 5, 5, 55, 10, 20, 60, 75, 75);
        due(11, "spot 0 is strange", NONE, y.match(0));
        for (int n = 0; n < 3; n++) {
            due(13, "table without spot 0", n + 1, y.table(n));
        }
        due(14, "place without spot 0", 40, y.place(20, 60, false, false));
    }

    /** All stars and spots there may be, the spots at the first ten stars' places. */
    private static void fullPlate() {
        FallingLight x = new FallingLight();
        int[] at = {3, 17, 190, 8, 44, 151, 121, 96, 77, 33, 9, 188, 163, 171, 58, 92, 139, 29, 101, 141, 28, 60, 180, 111};
        stars(x, at);
        for (int k = 0; k < 20; k += 2) {
            x.spot(at[k], at[k + 1]);
        }
        x.near(0);
        due(12, "all ten", 10, x.matched());
        for (int k = 0; k < 10; k++) {
            due(10, "each is in 36 threes", 36, x.votes(k, k));
            due(11, "each has its own star", k, x.match(k));
            due(10, "no votes with another", 0, x.votes(k, 11));
        }
        due(13, "the last of the table", 2, x.table(2));
        due(14, "the plate is the sky", 123, x.place(123, 45, false, false));
        x.clear(false);
        for (int k = 0; k < 10; k++) {
            x.spot(0, k);
        }
        due(13, "ten in a line", NONE, x.table(0));
    }

    private static void stations() {
        FallingLight x = new FallingLight();
        due(15, "station at the edge", 1, x.station(3, -99, 99, 9));
        due(15, "station at the other edge", 1, x.station(0, 99, -99, 0));
        due(15, "station -1", BEYOND, x.station(-1, 0, 0, 0));
        due(15, "station 4", BEYOND, x.station(4, 0, 0, 0));
        due(15, "x 100", BEYOND, x.station(0, 100, 0, 0));
        due(15, "x -100", BEYOND, x.station(0, -100, 0, 0));
        due(15, "y 100", BEYOND, x.station(0, 0, 100, 0));
        due(15, "y -100", BEYOND, x.station(0, 0, -100, 0));
        due(15, "z 10", BEYOND, x.station(0, 0, 0, 10));
        due(15, "z -1", BEYOND, x.station(0, 0, 0, -1));
        due(15, "x MIN", BEYOND, x.station(0, MIN, 0, 0));
        FallingLight y = watch();
        y.station(1, 30, 0, 1);
        due(15, "a sight sees from where its station is", 12, watch().point(0, 0, 1, false, 0, false));
        due(15, "a station that has moved", 6, y.point(0, 0, 1, false, 0, false));
    }

    private static void tellAndSight() {
        FallingLight x = new FallingLight();
        for (int k = 1; k <= 9; k++) {
            due(16, "tell " + k, k, x.tell(k % 2 == 0 ? MIN : MAX));
        }
        due(16, "tell 10", FULL, x.tell(0));
        due(16, "nine are there", 9, x.count(2));
        due(17, "no meteor", BEYOND, x.sight(6, 1, 0));
        due(17, "no meteor -1", BEYOND, x.sight(-1, 1, 0));
        due(17, "no kind 3", BEYOND, x.sight(0, 3, 0));
        due(17, "no kind -1", BEYOND, x.sight(0, -1, 0));
        due(17, "no station 4", BEYOND, x.sight(0, 1, 4));
        due(17, "no station -1", BEYOND, x.sight(0, 1, -1));
        due(17, "the tape stands", 9, x.count(2));
        due(17, "9 numbers for 6", SIZE, x.sight(0, 0, 0));
        due(17, "the tape is empty after SIZE", 0, x.count(2));
        due(17, "6 numbers for 9", SIZE, sight(x, 0, 1, 0, 1, 2, 3, 4, 5, 6));
        due(17, "5 numbers", SIZE, sight(x, 0, 2, 0, 1, 2, 3, 4, 5));
        due(17, "none", SIZE, x.sight(0, 2, 0));
        due(17, "BEGIN is 0", BEYOND, sight(x, 0, 0, 0, 0, 0, 0, 4, 5, 6));
        due(17, "the tape is empty after BEYOND", 0, x.count(2));
        due(17, "END is 0", BEYOND, sight(x, 0, 2, 0, 1, 2, 3, 0, 0, 0));
        due(17, "the middle is 0", BEYOND, sight(x, 0, 1, 0, 1, 2, 3, 4, 5, 6, 0, 0, 0));
        due(17, "10", BEYOND, sight(x, 0, 0, 0, 10, 2, 3, 4, 5, 6));
        due(17, "-10", BEYOND, sight(x, 0, 0, 0, 1, 2, 3, 4, 5, -10));
        due(17, "10 in the middle", BEYOND, sight(x, 0, 1, 0, 1, 2, 3, 4, 5, 6, 1, 10, 0));
        due(17, "no sight came", 0, x.count(3));
        due(17, "the edges", 0, sight(x, 5, 1, 3, 9, -9, 0, -9, 9, 9, 0, 0, -9));
        due(17, "the tape is empty after a sight", 0, x.count(2));
        sightsFull(x);
    }

    private static void sightsFull(FallingLight x) {
        due(17, "sight 1", 1, sight(x, 5, 0, 0, 1, 0, 0, 0, 1, 0));
        due(17, "sight 2", 2, sight(x, 5, 2, 0, 1, 0, 0, 1, 0, 0));
        due(17, "sight 3", 3, sight(x, 5, 0, 0, 1, 0, 0, 0, 1, 0));
        due(17, "sight 4", FULL, sight(x, 5, 0, 0, 1, 0, 0, 0, 1, 0));
        due(17, "the tape is empty after FULL", 0, x.count(2));
        due(17, "SIZE comes before FULL", SIZE, x.sight(5, 0, 0));
        due(17, "BEYOND comes before FULL", BEYOND, sight(x, 5, 0, 0, 0, 0, 0, 0, 1, 0));
        due(17, "another meteor has room", 0, sight(x, 4, 0, 0, 1, 0, 0, 0, 1, 0));
        due(17, "four there", 4, x.count(8));
        due(18, "drop", 3, x.drop(5));
        due(18, "drop of no meteor", BEYOND, x.drop(6));
        due(18, "drop of meteor -1", BEYOND, x.drop(-1));
        due(18, "drop of none", NONE, x.drop(0));
        due(18, "the last one went", 0, x.about(5, 1, 0));
        due(18, "sight 3 is gone", BEYOND, x.about(5, 3, 0));
        due(18, "its number comes again", 3, sight(x, 5, 2, 1, 1, 0, 0, 0, 1, 0));
        due(18, "as another", 2, x.about(5, 3, 0));
        due(18, "drop to 0", 0, x.drop(4));
        due(18, "drop of the empty", NONE, x.drop(4));
    }

    private static void aboutAndAs() {
        FallingLight x = new FallingLight();
        sight(x, 2, 0, 1, 1, 2, 3, 4, 5, 7);
        sight(x, 2, 1, 2, 1, 0, 2, 0, 3, 1, 4, 5, 6);
        sight(x, 2, 2, 3, 1, 2, 3, -2, -4, -6);
        sight(x, 2, 1, 0, 1, 2, 3, -2, -4, -6, 1, 1, 1);
        long[][] due = {
            {0, 1, -1, 5, -3, KIND},
            {1, 2, -6, -1, 3, -11},
            {2, 3, NONE, NONE, NONE, KIND},
            {1, 0, NONE, NONE, NONE, NONE},
        };
        for (int s = 0; s < 4; s++) {
            for (int what = 0; what < 6; what++) {
                due(19, "about(2, " + s + ", " + what + ")", due[s][what], x.about(2, s, what));
            }
            for (int kind = 0; kind < 3; kind++) {
                long want = kind == 0 || kind == due[s][0] ? due[s][1] : KIND;
                due(20, "as(2, " + s + ", " + kind + ")", want, x.as(2, s, kind));
            }
        }
        int[][] strange = {{2, 4, 0}, {2, -1, 0}, {1, 0, 0}, {6, 0, 0}, {-1, 0, 0}, {MAX, MIN, 0}};
        for (int[] s : strange) {
            due(19, "about of none", BEYOND, x.about(s[0], s[1], s[2]));
            due(20, "as of none", BEYOND, x.as(s[0], s[1], s[2]));
        }
        due(19, "what 6", BEYOND, x.about(2, 0, 6));
        due(19, "what -1", BEYOND, x.about(2, 0, -1));
        due(20, "kind 3", BEYOND, x.as(2, 0, 3));
        due(20, "kind -1", BEYOND, x.as(2, 0, -1));
    }

    private static void points() {
        FallingLight x = watch();
        long[] begin = {12, 24, 60};
        long[] end = {-12, 36, 48};
        for (int axis = 0; axis < 3; axis++) {
            due(21, "BEGIN " + axis, begin[axis], x.point(0, 0, 1, false, axis, false));
            due(21, "END " + axis, end[axis], x.point(0, 0, 1, true, axis, false));
            due(21, "BEGIN below " + axis, 1, x.point(0, 0, 1, false, axis, true));
        }
        // From (60, 0, 1) along (-4, 2, 5) into 7 x + 9 y - 5 z = 0: 415 + w (-35) = 0, w is 83/7.
        due(21, "BEGIN by 1 and 0: x above", 88, x.point(0, 1, 0, false, 0, false));
        due(21, "BEGIN by 1 and 0: x below", 7, x.point(0, 1, 0, false, 0, true));
        due(21, "BEGIN by 1 and 0: z above", 422, x.point(0, 1, 0, false, 2, false));
        due(21, "axis 3", BEYOND, x.point(0, 0, 1, false, 3, false));
        due(21, "axis -1", BEYOND, x.point(0, 0, 1, false, -1, false));
        due(21, "s is t", BEYOND, x.point(0, 1, 1, false, 0, false));
        due(21, "no sight 2", BEYOND, x.point(0, 0, 2, false, 0, false));
        due(21, "no sight -1", BEYOND, x.point(0, -1, 0, false, 0, false));
        due(21, "no meteor 6", BEYOND, x.point(6, 0, 1, false, 0, false));
        due(21, "no sights of meteor 1", BEYOND, x.point(1, 0, 1, false, 0, false));
        sight(x, 0, 2, 2, 1, 2, 3, 1, 2, 3);
        sight(x, 0, 1, 2, 1, 2, 3, 1, 2, 3, 1, 1, 1);
        due(21, "s is BLURRED", KIND, x.point(0, 2, 1, false, 0, false));
        due(21, "BEYOND comes before KIND", BEYOND, x.point(0, 2, 1, false, 3, false));
        due(21, "KIND comes before NONE", KIND, x.point(0, 2, 3, false, 0, false));
        due(21, "t has no PLANE", NONE, x.point(0, 0, 2, false, 0, false));
        due(21, "s needs no PLANE", 1, x.point(0, 3, 0, false, 0, true));
        neverMeets();
    }

    private static void neverMeets() {
        FallingLight x = new FallingLight();
        x.station(1, 0, 0, 5);
        sight(x, 3, 0, 0, 1, 1, 0, 2, 1, 1);
        sight(x, 3, 0, 1, 1, 0, 0, 0, 1, 0);
        due(21, "the ray never meets the plane", NONE, x.point(3, 0, 1, false, 0, false));
        due(21, "but END does", 10, x.point(3, 0, 1, true, 0, false));
        x.station(1, 0, 0, 0);
        due(21, "the ray is in the plane", NONE, x.point(3, 0, 1, false, 0, false));
        x.station(0, 0, 0, 9);
        FallingLight y = new FallingLight();
        y.station(0, 0, 5, 0);
        y.station(1, 0, 9, 0);
        sight(y, 0, 0, 0, 0, 2, 1, 1, 1, 0);
        sight(y, 0, 0, 1, 1, 0, 0, 0, 0, 1);
        due(21, "stations apart in y: y", 9, y.point(0, 0, 1, false, 1, false));
        due(21, "stations apart in y: z", 2, y.point(0, 0, 1, false, 2, false));
        due(21, "behind the station", -18, x.point(3, 0, 1, true, 0, false));
        due(21, "behind the station, y", -9, x.point(3, 0, 1, true, 1, false));
        due(21, "behind the station, z", 0, x.point(3, 0, 1, true, 2, false));
        due(21, "0 has 1 below", 1, x.point(3, 0, 1, true, 2, true));
    }

    private static void fallAndAngle() {
        FallingLight x = watch();
        long[] way = {70, -35, 35};
        for (int axis = 0; axis < 3; axis++) {
            due(22, "fall " + axis, way[axis], x.fall(0, 0, 1, axis));
            due(22, "fall turned " + axis, -way[axis], x.fall(0, 1, 0, axis));
        }
        due(22, "axis 3", BEYOND, x.fall(0, 0, 1, 3));
        due(22, "axis -1", BEYOND, x.fall(0, 0, 1, -1));
        due(22, "s is t", BEYOND, x.fall(0, 0, 0, 0));
        due(22, "no sight", BEYOND, x.fall(0, 0, 2, 0));
        due(22, "no meteor", BEYOND, x.fall(-1, 0, 1, 0));
        due(23, "angle above", 25, x.angle(0, 0, 1, false));
        due(23, "angle below", 31, x.angle(0, 0, 1, true));
        due(23, "angle of s and s", BEYOND, x.angle(0, 0, 0, true));
        due(23, "angle of no sight", BEYOND, x.angle(0, 2, 0, true));
        due(23, "angle of no meteor", BEYOND, x.angle(6, 0, 1, true));
        sight(x, 0, 2, 3, 2, 4, 9, -2, 6, 8);
        sight(x, 0, 0, 3, 1, 1, 1, -1, -1, -1);
        due(22, "a BLURRED one has a FALL", 1, x.fall(0, 2, 0, 0) == NONE ? 0 : 1);
        due(22, "no PLANE of t", NONE, x.fall(0, 0, 3, 0));
        due(22, "no PLANE of s", NONE, x.fall(0, 3, 0, 0));
        due(23, "no PLANE of t, no ANGLE", NONE, x.angle(0, 0, 3, false));
        due(23, "no PLANE of s, no ANGLE", NONE, x.angle(0, 3, 0, false));
        alikePlanes();
    }

    private static void alikePlanes() {
        FallingLight x = new FallingLight();
        x.station(1, 1, 1, 1);
        sight(x, 1, 0, 0, 1, 0, 0, 0, 1, 0);
        sight(x, 1, 0, 1, 0, 2, 0, 2, 0, 0);
        sight(x, 1, 2, 1, 0, 1, 0, 0, 0, 1);
        due(22, "planes alike", NONE, x.fall(1, 0, 1, 0));
        due(23, "planes alike: 1", 1, x.angle(1, 0, 1, false));
        due(23, "planes alike: by 1", 1, x.angle(1, 0, 1, true));
        due(23, "planes upright: 0", 0, x.angle(1, 2, 1, false));
        due(23, "planes upright: by 1", 1, x.angle(1, 2, 1, true));
        due(22, "a fall with 0 in it", 0, x.fall(1, 0, 2, 0));
    }

    private static void best() {
        FallingLight x = watch();
        due(24, "of two alike the least s", 1, x.best(0));
        due(24, "no meteor 6", BEYOND, x.best(6));
        due(24, "no meteor -1", BEYOND, x.best(-1));
        due(24, "no sights", NONE, x.best(1));
        // A third one upright to sight 1's plane (-7, -14, 0 as a way 1, 2, 0): its ANGLE with it is 0.
        FallingLight y = watch();
        due(24, "PLANE of sight 1", -7, y.about(0, 1, 2));
        due(24, "PLANE of sight 1, y", -14, y.about(0, 1, 3));
        due(24, "PLANE of sight 1, z", 0, y.about(0, 1, 4));
        sight(y, 0, 0, 2, 1, 2, 1, 1, 2, 0);
        due(24, "PLANE upright to it", 0, y.angle(0, 1, 2, false));
        due(24, "the least ANGLE", 12, y.best(0));
        bestWithout();
    }

    private static void bestWithout() {
        FallingLight x = new FallingLight();
        sight(x, 0, 2, 0, 1, 0, 0, 0, 1, 0);
        sight(x, 0, 0, 1, 0, 1, 1, 0, 0, 1);
        due(24, "s isn't BLURRED, t may be", 10, x.best(0));
        x.drop(0);
        sight(x, 0, 2, 1, 0, 1, 0, 0, 0, 1);
        due(24, "two BLURRED ones", NONE, x.best(0));
        FallingLight y = new FallingLight();
        sight(y, 0, 0, 0, 1, 0, 0, 0, 1, 0);
        sight(y, 0, 0, 1, 0, 1, 0, 1, 0, 0);
        due(24, "no FALL", NONE, y.best(0));
        y.drop(0);
        sight(y, 0, 0, 1, 1, 0, 0, 0, 0, 1);
        due(24, "the BEGIN rays are in the planes", NONE, y.best(0));
        y.drop(0);
        sight(y, 0, 0, 1, 0, 0, 1, 1, 0, 0);
        due(24, "BEGIN by 1 and 0 alone", 10, y.best(0));
        sight(y, 0, 0, 1, 0, 0, 1, 0, 0, 2);
        due(24, "one without a PLANE isn't asked", 10, y.best(0));
    }

    private static void landAndDrift() {
        FallingLight x = watch();
        due(25, "x", -108, x.land(0, 0, 1, false, false));
        due(25, "y", 84, x.land(0, 0, 1, true, false));
        due(25, "below", 1, x.land(0, 0, 1, true, true));
        // By 1 and 0: (88/7, 166/7, 422/7) along (-70, 35, -35) goes to x 88/7 - 844/7, y 166/7 + 422/7.
        due(25, "x by 1 and 0", -108, x.land(0, 1, 0, false, false));
        due(25, "y by 1 and 0", 84, x.land(0, 1, 0, true, false));
        due(25, "s is t", BEYOND, x.land(0, 0, 0, true, false));
        due(25, "no sight", BEYOND, x.land(0, 0, 2, true, false));
        due(25, "no meteor", BEYOND, x.land(6, 0, 1, true, false));
        sight(x, 0, 2, 0, 1, 2, 5, -1, 3, 4);
        sight(x, 0, 0, 0, 1, 2, 5, 1, 2, 5);
        due(25, "BLURRED", KIND, x.land(0, 2, 1, true, false));
        due(25, "KIND comes before NONE", KIND, x.land(0, 2, 3, true, false));
        due(25, "t has no PLANE", NONE, x.land(0, 0, 3, true, false));
        due(25, "s has no PLANE: no FALL", NONE, x.land(0, 3, 1, true, false));
        due(25, "the same plane: no FALL", NONE, x.land(0, 0, 2, true, false));
        level();
        fractionOfLanding();
    }

    /** Both planes hold the way (1, 0, 0), so the fall never comes down. */
    private static void level() {
        FallingLight x = new FallingLight();
        x.station(1, 0, 9, 0);
        sight(x, 0, 0, 0, 1, 1, 1, -1, 1, 1);
        sight(x, 0, 0, 1, 1, -1, 2, -1, -1, 2);
        due(25, "level: fall's z", 0, x.fall(0, 0, 1, 2));
        due(25, "level: BEGIN is there", 6, x.point(0, 0, 1, false, 2, false));
        due(25, "level", NONE, x.land(0, 0, 1, false, false));
    }

    private static void fractionOfLanding() {
        FallingLight x = new FallingLight();
        x.station(1, 7, 0, 0);
        sight(x, 0, 0, 0, 1, 1, 3, 1, 2, 2);
        sight(x, 0, 0, 1, 0, 1, 3, 1, 1, 2);
        // PLANES (-4, 1, 1) and (-1, 3, -1); BEGIN: (1, 1, 3) w with -w + 7 = 0; FALL (-4, -5, -11).
        due(25, "FALL x", -4, x.fall(0, 0, 1, 0));
        due(25, "FALL y", -5, x.fall(0, 0, 1, 1));
        due(25, "FALL z", -11, x.fall(0, 0, 1, 2));
        due(25, "BEGIN z", 21, x.point(0, 0, 1, false, 2, false));
        due(25, "x above", -7, x.land(0, 0, 1, false, false));
        due(25, "x below", 11, x.land(0, 0, 1, false, true));
        due(25, "y above", -28, x.land(0, 0, 1, true, false));
        due(25, "y below", 11, x.land(0, 0, 1, true, true));
    }

    private static void windAndDrift() {
        FallingLight x = watch();
        due(26, "layer 10", BEYOND, x.wind(10, 0, 0));
        due(26, "layer -1", BEYOND, x.wind(-1, 0, 0));
        due(26, "x 10", BEYOND, x.wind(0, 10, 0));
        due(26, "x -10", BEYOND, x.wind(0, -10, 0));
        due(26, "y 10", BEYOND, x.wind(0, 0, 10));
        due(26, "y -10", BEYOND, x.wind(0, 0, -10));
        due(26, "no wind came", 0, x.drift(0, 0, 1, false, false));
        due(26, "a layer", 1, x.wind(4, 9, -9));
        due(27, "8 of layer 4 are below 48", 72, x.drift(0, 0, 1, false, false));
        due(27, "y", -72, x.drift(0, 0, 1, true, false));
        x.wind(5, 9, 9);
        due(27, "layer 5 is above", 72, x.drift(0, 0, 1, false, false));
        x.wind(0, -9, 1);
        due(27, "all of layer 0 is below", -18, x.drift(0, 0, 1, false, false));
        x.wind(4, 0, 0);
        due(26, "a layer again", -90, x.drift(0, 0, 1, false, false));
        due(27, "s is t", BEYOND, x.drift(0, 1, 1, false, false));
        due(27, "no sight", BEYOND, x.drift(0, 2, 1, false, false));
        due(27, "no meteor", BEYOND, x.drift(6, 0, 1, false, false));
        sight(x, 0, 2, 0, 1, 2, 5, -1, 3, 4);
        sight(x, 0, 0, 0, 1, 2, 5, 1, 2, 5);
        due(27, "BLURRED", KIND, x.drift(0, 2, 3, false, false));
        due(27, "no PLANE", NONE, x.drift(0, 0, 3, false, false));
        heights();
    }

    /** END of sight 0 goes up by 1 for each x; the plane of sight 1 is x = its station's x. */
    private static FallingLight tower(int height, int up, int over) {
        FallingLight x = new FallingLight();
        x.station(1, height, 0, 0);
        sight(x, 0, 0, 0, 0, 1, 1, over, 0, up);
        sight(x, 0, 0, 1, 0, 1, 0, 0, 0, 1);
        for (int k = 0; k < 10; k++) {
            x.wind(k, k, 9 - 2 * k);
        }
        return x;
    }

    private static void heights() {
        due(27, "height 0", 0, tower(0, 1, 1).drift(0, 0, 1, false, false));
        due(27, "height 0: 1 below", 1, tower(0, 1, 1).drift(0, 0, 1, false, true));
        due(27, "height 100", 450, tower(50, 2, 1).drift(0, 0, 1, false, false));
        due(27, "height 100, y", 0, tower(50, 2, 1).drift(0, 0, 1, true, false));
        due(27, "height 90", 360, tower(90, 1, 1).drift(0, 0, 1, false, false));
        due(27, "height 102", SIZE, tower(51, 2, 1).drift(0, 0, 1, false, false));
        due(27, "height 301/3", SIZE, tower(43, 7, 3).drift(0, 0, 1, false, false));
        due(27, "height -1", SIZE, tower(-1, 1, 1).drift(0, 0, 1, false, false));
        due(27, "height -1/9", SIZE, tower(-1, 1, 9).drift(0, 0, 1, false, false));
        // 44/3: all of layer 0 (x 0, y 9) and 14/3 of layer 1 (x 1, y 7).
        due(27, "height 44/3", 14, tower(44, 1, 3).drift(0, 0, 1, false, false));
        due(27, "height 44/3 below", 3, tower(44, 1, 3).drift(0, 0, 1, false, true));
        due(27, "height 44/3, y", 368, tower(44, 1, 3).drift(0, 0, 1, true, false));
        // 200/3: 10 (0 + .. + 5) and 20/3 of layer 6.
        due(27, "height 200/3", 190, tower(40, 5, 3).drift(0, 0, 1, false, false));
        // 50/4: 5/2 of layer 1.
        due(27, "lowest terms", 5, tower(50, 1, 4).drift(0, 0, 1, false, false));
        due(27, "lowest terms below", 2, tower(50, 1, 4).drift(0, 0, 1, false, true));
        FallingLight x = tower(50, 0, 1);
        x.drop(0);
        sight(x, 0, 0, 1, 1, 1, 0, 1, 2, 0);
        due(27, "END never meets the plane", NONE, x.drift(0, 0, 1, false, false));
    }

    private static void radiants() {
        FallingLight x = new FallingLight();
        sight(x, 0, 0, 0, 1, 1, 1, 2, 2, 2);
        sight(x, 0, 0, 0, 1, 0, 0, 0, 1, 0);
        sight(x, 0, 2, 0, 3, 0, 0, 2, 3, 0);
        due(28, "meteor 1 has none", NONE, x.radiant(0, 1, 0));
        due(28, "meteor 1 has none, turned", NONE, x.radiant(1, 0, 0));
        due(29, "no shower", NONE, x.shower(0, 1));
        sight(x, 1, 2, 0, 0, 2, 0, 0, 0, 3);
        sight(x, 1, 2, 0, 1, 0, 0, 0, 0, 3);
        // PLANES (0, 0, 1) and (6, 0, 0).
        long[] way = {0, 6, 0};
        for (int axis = 0; axis < 3; axis++) {
            due(28, "radiant " + axis, way[axis], x.radiant(0, 1, axis));
            due(28, "radiant turned " + axis, -way[axis], x.radiant(1, 0, axis));
        }
        due(28, "axis 3", BEYOND, x.radiant(0, 1, 3));
        due(28, "axis -1", BEYOND, x.radiant(0, 1, -1));
        due(28, "the same", BEYOND, x.radiant(1, 1, 0));
        due(28, "no meteor 6", BEYOND, x.radiant(0, 6, 0));
        due(28, "no meteor -1", BEYOND, x.radiant(-1, 1, 0));
        due(29, "the same, no shower", BEYOND, x.shower(1, 1));
        due(29, "no meteor 6, no shower", BEYOND, x.shower(6, 1));
        due(29, "no meteor -1, no shower", BEYOND, x.shower(1, -1));
        due(29, "meteor 1's second PLANE is off", 1, x.shower(0, 1));
        x.drop(1);
        due(29, "both", 3, x.shower(0, 1));
        sight(x, 5, 0, 0, 0, 1, 0, 1, 0, 1);
        due(29, "meteor 5, too", 35, x.shower(1, 0));
        sight(x, 4, 0, 0, 0, 1, 0, 0, 1, 0);
        due(29, "one without a PLANE isn't of it", 35, x.shower(1, 0));
        sight(x, 3, 0, 0, 1, 0, 1, 0, 1, 1);
        due(29, "meteor 3 isn't of it", 35, x.shower(0, 5));
        sight(x, 2, 0, 0, 0, 1, 0, 1, 0, 0);
        FallingLight y = new FallingLight();
        sight(y, 3, 0, 0, 1, 0, 0, 0, 1, 0);
        sight(y, 4, 0, 0, 0, 1, 0, 0, 0, 1);
        due(29, "meteors 3 and 4 alone", 24, y.shower(4, 3));
        due(28, "planes alike", NONE, x.radiant(0, 2, 0));
        due(29, "planes alike, no shower", NONE, x.shower(0, 2));
    }

    private static void check() {
        FallingLight x = plate();
        due(30, "nothing told", 0, x.check());
        tape(x, 1, 2, 3, 4);
        due(30, "all are", 0, x.check());
        due(30, "the tape is empty", 0, x.count(2));
        tape(x, 1, 2);
        due(30, "as many as were told", 0, x.check());
        tape(x, 0, 2);
        due(30, "the first isn't", 1, x.check());
        tape(x, 1, 2, 3, -1);
        due(30, "the last isn't", 4, x.check());
        due(30, "the tape is empty, too", 0, x.count(2));
        tape(x, 1, 2, 3, 4, -1);
        due(30, "more than spots", 99, x.check());
        tape(x, 1, 2, 2, 4, -1, 7);
        due(30, "more than spots, one isn't", 3, x.check());
        x.spot(100, 1);
        tape(x, 1, 2, 3, 4, -1);
        due(30, "-1: none", 0, x.check());
        tape(x, 1, 2, 3, 4, 0);
        due(30, "0 isn't none", 5, x.check());
        tape(x, 1, 2, 3, 4, -2);
        due(30, "-2 isn't none", 5, x.check());
        FallingLight y = new FallingLight();
        tape(y, 5);
        due(30, "no spots at all", 99, y.check());
        due(30, "findings aren't counted by check", 0, x.found(2));
    }

    private static void countAndFound() {
        FallingLight x = plate();
        x.tell(3);
        due(31, "stars", 5, x.count(0));
        due(31, "spots", 4, x.count(1));
        due(31, "tape", 1, x.count(2));
        x.sight(0, 0, 0);
        for (int m = 0; m < 6; m++) {
            sight(x, m, 0, 0, 1, 0, 0, 0, 1, 0);
        }
        sight(x, 5, 0, 0, 1, 0, 0, 0, 1, 0);
        due(31, "meteor 0", 1, x.count(3));
        due(31, "meteor 5", 2, x.count(8));
        due(31, "9", BEYOND, x.count(9));
        due(31, "-1", BEYOND, x.count(-1));
        due(32, "BEYOND", 2, x.found(1));
        due(32, "k 0", BEYOND, x.found(0));
        due(32, "k 6", BEYOND, x.found(6));
        due(32, "k -1", BEYOND, x.found(-1));
        due(32, "those are counted", 5, x.found(1));
        due(32, "NONE", 0, x.found(2));
        x.put(0, 0, 0);
        due(32, "NONE, one", 1, x.found(2));
        x.about(0, 0, 5);
        x.as(0, 0, 1);
        due(32, "KIND", 2, x.found(3));
        for (int k = 0; k < 10; k++) {
            x.tell(k);
        }
        due(32, "FULL", 1, x.found(4));
        x.row(0, -2);
        due(32, "SIZE", 2, x.found(5));
        due(32, "BEYOND stands", 5, x.found(1));
    }

    public static void main(String[] args) {
        newObject();
        starAndSpot();
        rowAndPut();
        load();
        clear();
        near();
        corner();
        votesAndMatches();
        table();
        firstAsks();
        starNought();
        fullPlate();
        stations();
        tellAndSight();
        aboutAndAs();
        points();
        fallAndAngle();
        best();
        landAndDrift();
        windAndDrift();
        radiants();
        check();
        countAndFound();
        System.out.println(wrong == 0 ? asked + " answers are as due" : wrong + " of " + asked + " answers are not as due");
        if (wrong != 0) {
            System.exit(1);
        }
    }
}
