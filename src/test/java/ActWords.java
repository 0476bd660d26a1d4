import java.lang.reflect.Method;

/** The sentence of each promise that tells what an act answers, by cases worked out by hand. */
final class ActWords extends Edges {
    private ActWords() {
    }

    static void all() {
        longs();
        starsAndSpots();
        corners();
        matching();
        stationsAndSights();
        points();
        fallsAndAngles();
        landings();
        winds();
        showers();
        told();
    }

    private static void longs() {
        sentence(TERMS, "All acts answer longs.");
        int acts = 0;
        for (Method act : FallingLight.class.getMethods()) {
            if (act.getDeclaringClass() == FallingLight.class) {
                acts++;
                is(act.getName(), 1, act.getReturnType() == long.class ? 1 : 0);
            }
        }
        is("acts", 31, acts);
    }

    private static void starsAndSpots() {
        sentence(2, "A STAR: its number.");
        FallingLight x = new FallingLight();
        is("the first", 0, x.star(10, 20));
        is("the second", 1, x.star(30, 40));
        is("they are two", 2, x.count(0));
        is("they aren't spots", 0, x.count(1));
        sentence(3, "A SPOT: its number.");
        is("the first", 0, x.spot(50, 60));
        is("the second", 1, x.spot(70, 80));
        is("the third", 2, x.spot(70, 80));
        is("they are three", 3, x.count(1));
        is("they aren't stars", 2, x.count(0));
    }

    private static void corners() {
        sentence(9, "CORNER k (0 FIRST, 1, 2) of the TRIANGLE of three SPOTS (stars: STARS), as a number; k 3: its TURN.");
        FallingLight x = new FallingLight();
        // Spots: squares 900 of 12, 1600 of 13, 2500 of 23; (0, 0) is spot 1. FIRST 3, SECOND 2, THIRD 1.
        spots(x, 199, 199, 0, 0, 30, 0, 0, 40);
        // Stars: 100 of 01, 500 of 02, 400 of 12; FIRST 2, SECOND 0, THIRD 1.
        stars(x, 50, 50, 50, 60, 70, 60);
        long[] ofSpots = {3, 2, 1};
        long[] ofStars = {2, 0, 1};
        for (int k = 0; k < 3; k++) {
            is("of spots, " + k, ofSpots[k], x.corner(1, 2, 3, k, false));
            is("of stars, " + k, ofStars[k], x.corner(1, 2, 0, k, true));
        }
        // (30, 0) - (0, 40) by (0, 0) - (0, 40): 30 (-40) - (-40) 0 is -1200.
        is("TURN of spots", -1, x.corner(1, 2, 3, 3, false));
        // (-20, -10) by (-20, 0): -20 0 - (-10) (-20) is -200.
        is("TURN of stars", -1, x.corner(0, 1, 2, 3, true));
        x.star(50, 40);
        // 100 of 03, 800 of 23, 500 of 02: FIRST 2, SECOND 3, THIRD 0; (-20, -20) by (-20, -10): 200 - 400.
        is("TURN of others", -1, x.corner(0, 2, 3, 3, true));
        x.star(30, 65);
        // 625 of 04, 1625 of 24, 500 of 02: FIRST 4, SECOND 2, THIRD 0; (40, -5) by (20, -15): -600 + 100.
        is("and others", -1, x.corner(0, 2, 4, 3, true));
        x.star(90, 45);
        // 1625 of 05, 500 of 02, 625 of 25: FIRST 5, SECOND 0, THIRD 2; (-40, 5) by (-20, 15): -600 + 100.
        is("and again", -1, x.corner(0, 2, 5, 3, true));
        x.star(90, 80);
        // 2500 of 06, 800 of 26, 500 of 02: FIRST 6, SECOND 0, THIRD 2; (-40, -30) by (-20, -20): 800 - 600.
        is("one that turns the other way", 1, x.corner(0, 2, 6, 3, true));
    }

    /** Stars 1 to 4 are at twice the places of spots 0 to 3; star 0 is by itself. */
    private static FallingLight plate() {
        FallingLight x = new FallingLight();
        stars(x, 20, 70, 10, 10, 110, 20, 40, 120, 150, 150);
        spots(x, 5, 5, 55, 10, 20, 60, 75, 75);
        return x;
    }

    private static void matching() {
        FallingLight x = plate();
        sentence(10, "VOTES.");
        // Squares 3250 of 02 and of 23, so 023 isn't GOOD; each of 012, 013 and 123 is LIKE that of the stars.
        long[] due = {2, 3, 2, 2};
        for (int spot = 0; spot < 4; spot++) {
            is("spot " + spot + " with its star", due[spot], x.votes(spot, spot + 1));
        }
        is("spot 0 with another", 0, x.votes(0, 3));
        sentence(11, "MATCH.");
        for (int spot = 0; spot < 4; spot++) {
            is("of spot " + spot, spot + 1, x.match(spot));
        }
        sentence(13, "The k-th SPOT (0 .. 2) of THE TABLE.");
        for (int k = 0; k < 3; k++) {
            is("of 0, 1, 2: " + k, k, x.table(k));
        }
        FallingLight y = plate();
        y.clear(false);
        spots(y, 150, 7, 5, 5, 55, 10, 20, 60, 75, 75);
        for (int k = 0; k < 3; k++) {
            is("without spot 0, which has no match: " + k, k + 1, y.table(k));
        }
        sentence(14, "X (y: Y) of (u, v) by THE TABLE.");
        is("X of a spot", 110, x.place(55, 10, false, false));
        is("Y of a spot", 20, x.place(55, 10, true, false));
        is("X of another place", 62, x.place(31, 122, false, false));
        is("Y of another place", 244, x.place(31, 122, true, false));
        is("a whole number is by 1", 1, x.place(31, 122, true, true));
    }

    private static void stationsAndSights() {
        sentence(15, "A STATION is there: 1.");
        FallingLight x = new FallingLight();
        is("station 1", 1, x.station(1, 60, 0, 1));
        is("station 1 again", 1, x.station(1, 60, 0, 1));
        sentence(17, "A SIGHT of a METEOR by a STATION, of a KIND: its ways are the tape's (empty then):"
                + " BEGIN, END, of a LONG one the middle one: its number.");
        tape(x, 1, 2, 5, -1, 3, 4);
        is("the first", 0, x.sight(0, 0, 0));
        is("the tape behind it", 0, x.count(2));
        tape(x, -4, 2, 5, -6, 3, 4, 1, -1, 2);
        is("a LONG one", 1, x.sight(0, 1, 1));
        is("the tape behind that", 0, x.count(2));
        tape(x, 1, 2, 5, -1, 3, 4);
        is("of another meteor", 0, x.sight(4, 2, 3));
        // BEGIN x END: (2 4 - 5 3, 5 (-1) - 1 4, 1 3 - 2 (-1)).
        long[] plane = {-7, -9, 5};
        // (2 4 - 5 3, 5 (-6) - (-4) 4, (-4) 3 - 2 (-6)).
        long[] other = {-7, -14, 0};
        for (int axis = 0; axis < 3; axis++) {
            is("BEGIN x END, " + axis, plane[axis], x.about(0, 0, 2 + axis));
            is("of the LONG one, " + axis, other[axis], x.about(0, 1, 2 + axis));
        }
        is("with the middle way: -7 + 14", 7, x.about(0, 1, 5));
        sentence(19, "Of a SIGHT: 0 its kind, 1 its station,");
        long[][] due = {{0, 0}, {1, 1}};
        for (int s = 0; s < 2; s++) {
            is("kind of sight " + s, due[s][0], x.about(0, s, 0));
            is("station of sight " + s, due[s][1], x.about(0, s, 1));
        }
        is("kind of meteor 4's", 2, x.about(4, 0, 0));
        is("station of meteor 4's", 3, x.about(4, 0, 1));
        sentence(20, "A SIGHT as one of a kind: its station.");
        is("as a SIGHT", 0, x.as(0, 0, 0));
        is("a LONG one as a SIGHT", 1, x.as(0, 1, 0));
        is("a LONG one as LONG", 1, x.as(0, 1, 1));
        is("a BLURRED one as a SIGHT", 3, x.as(4, 0, 0));
        is("a BLURRED one as BLURRED", 3, x.as(4, 0, 2));
    }

    /** A fall from (12, 24, 60) to (-12, 36, 48), seen from (0, 0, 0) and from (60, 0, 1). */
    private static FallingLight watch() {
        FallingLight x = new FallingLight();
        x.station(1, 60, 0, 1);
        sight(x, 0, 0, 0, 1, 2, 5, -1, 3, 4);
        sight(x, 0, 0, 1, -4, 2, 5, -6, 3, 4);
        return x;
    }

    private static void points() {
        sentence(21, "A coordinate (0 x, 1 y, 2 z) of the BEGIN point (end: END point) by s and t.");
        FallingLight x = watch();
        long[] begin = {12, 24, 60};
        long[] end = {-12, 36, 48};
        // From (60, 0, 1) along (-4, 2, 5) into 7 x + 9 y - 5 z = 0: 415 - 35 w = 0.
        long[] other = {88, 166, 422};
        for (int axis = 0; axis < 3; axis++) {
            isFraction("BEGIN by 0, 1", begin[axis], 1, x.point(0, 0, 1, false, axis, false), x.point(0, 0, 1, false, axis, true));
            isFraction("END by 0, 1", end[axis], 1, x.point(0, 0, 1, true, axis, false), x.point(0, 0, 1, true, axis, true));
            isFraction("BEGIN by 1, 0", other[axis], 7, x.point(0, 1, 0, false, axis, false), x.point(0, 1, 0, false, axis, true));
        }
    }

    private static void fallsAndAngles() {
        sentence(22, "A coordinate of THE FALL.");
        FallingLight x = watch();
        long[] way = {70, -35, 35};
        for (int axis = 0; axis < 3; axis++) {
            is("of 0 and 1", way[axis], x.fall(0, 0, 1, axis));
            is("of 1 and 0", -way[axis], x.fall(0, 1, 0, axis));
        }
        sentence(23, "ANGLE.");
        // 175 175 by 155 245.
        isFraction("of 0 and 1", 25, 31, x.angle(0, 0, 1, false), x.angle(0, 0, 1, true));
        isFraction("of 1 and 0", 25, 31, x.angle(0, 1, 0, false), x.angle(0, 1, 0, true));
        sentence(24, "BEST PAIR: 10 s and t.");
        is("0 and 1", 1, x.best(0));
        // PLANE (4, 0, -1): with (-7, -9, 5) 33 33 by 17 155, with (-7, -14, 0) 28 28 by 17 245.
        sight(x, 0, 0, 2, 0, 1, 0, -1, 0, -4);
        isFraction("of 0 and 2", 1089, 2635, x.angle(0, 0, 2, false), x.angle(0, 0, 2, true));
        isFraction("of 1 and 2", 16, 85, x.angle(0, 1, 2, false), x.angle(0, 1, 2, true));
        is("1 and 2", 12, x.best(0));
    }

    private static void landings() {
        sentence(25, "x (y: y) of LANDING by s and t.");
        FallingLight x = watch();
        // (12, 24, 60) and -12/7 times (70, -35, 35).
        isFraction("x", -108, 1, x.land(0, 0, 1, false, false), x.land(0, 0, 1, false, true));
        isFraction("y", 84, 1, x.land(0, 0, 1, true, false), x.land(0, 0, 1, true, true));
        FallingLight y = new FallingLight();
        y.station(1, 7, 0, 0);
        sight(y, 0, 0, 0, 1, 1, 3, 1, 2, 2);
        sight(y, 0, 0, 1, 0, 1, 3, 1, 1, 2);
        // (7, 7, 21) and 21/11 times (-4, -5, -11).
        isFraction("x in elevenths", -7, 11, y.land(0, 0, 1, false, false), y.land(0, 0, 1, false, true));
        isFraction("y in elevenths", -28, 11, y.land(0, 0, 1, true, false), y.land(0, 0, 1, true, true));
    }

    private static void winds() {
        sentence(26, "A layer's drift is so: 1.");
        FallingLight x = watch();
        is("a layer", 1, x.wind(0, 3, -2));
        is("the same layer", 1, x.wind(0, 4, -1));
        sentence(27, "DRIFT (y: of y) from the height of the END point by s and t.");
        // END is at 48: all of layer 0, 8 of layer 4.
        is("x of layer 0", 40, x.drift(0, 0, 1, false, false));
        is("y of layer 0", -10, x.drift(0, 0, 1, true, false));
        x.wind(4, 1, 9);
        x.wind(5, 9, 9);
        is("x with layer 4", 48, x.drift(0, 0, 1, false, false));
        is("y with layer 4", 62, x.drift(0, 0, 1, true, false));
        is("by 1", 1, x.drift(0, 0, 1, true, true));
        FallingLight y = SightEdges.tower(44, 1, 3);
        y.wind(1, 1, 7);
        // 44/3: 14/3 of layer 1.
        isFraction("x from 44/3", 14, 3, y.drift(0, 0, 1, false, false), y.drift(0, 0, 1, false, true));
        isFraction("y from 44/3", 98, 3, y.drift(0, 0, 1, true, false), y.drift(0, 0, 1, true, true));
    }

    private static void showers() {
        FallingLight x = new FallingLight();
        // PLANES (0, 0, 1), (6, 0, 0), (1, 0, -1) and (-1, -1, 1).
        sight(x, 0, 0, 0, 1, 0, 0, 0, 1, 0);
        sight(x, 1, 0, 0, 0, 2, 0, 0, 0, 3);
        sight(x, 5, 0, 0, 0, 1, 0, 1, 0, 1);
        sight(x, 3, 0, 0, 1, 0, 1, 0, 1, 1);
        sentence(28, "A coordinate of the RADIANT of two METEORS.");
        long[] way = {0, 6, 0};
        long[] other = {1, 0, 1};
        for (int axis = 0; axis < 3; axis++) {
            is("of 0 and 1, " + axis, way[axis], x.radiant(0, 1, axis));
            is("of 1 and 0, " + axis, -way[axis], x.radiant(1, 0, axis));
            is("of 3 and 5, " + axis, other[axis], x.radiant(3, 5, axis));
        }
        sentence(29, "SHOWER of two METEORS, as bits.");
        is("0, 1 and 5", 1 + 2 + 32, x.shower(0, 1));
        is("3 and 5", 8 + 32, x.shower(3, 5));
        is("5 and 3", 8 + 32, x.shower(5, 3));
    }

    private static void told() {
        sentence(31, "0 STARS, 1 SPOTS, 2 the tape's numbers, 3 .. 8 SIGHTS of METEOR 0 .. 5.");
        FallingLight x = plate();
        for (int m = 0; m < 6; m++) {
            for (int k = 0; k < m % 4 + 1; k++) {
                sight(x, m, 0, 0, 1, 0, 0, 0, 1, 0);
            }
        }
        tape(x, 7, 7, 7);
        long[] due = {5, 4, 3, 1, 2, 3, 4, 1, 2};
        for (int what = 0; what < 9; what++) {
            is("count(" + what + ")", due[what], x.count(what));
        }
    }
}
