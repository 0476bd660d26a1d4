/** Boundary cases of promises 1 to 14: stars and spots. */
final class StarEdges extends Edges {
    private StarEdges() {
    }

    static void all() {
        newObject();
        starAndSpot();
        rows();
        puts();
        loads();
        loadsFull();
        loadFindings();
        clears();
        nears();
        corners();
        votes();
        matches();
        tables();
        places();
    }

    private static void newObject() {
        sentence(1, "No stars, spots, sights; T 5; no wind.");
        FallingLight x = new FallingLight();
        for (int what = 0; what <= 8; what++) {
            is("count(" + what + ")", 0, x.count(what));
        }
        is("T", 5, x.near(6));
        FallingLight y = SightEdges.tower(99, 1, 1);
        is("wind, x", 0, y.drift(0, 0, 1, false, false));
        is("wind, y", 0, y.drift(0, 0, 1, true, false));
        is("clear of no spots", 0, x.clear(false));
        is("clear of no stars", 0, x.clear(true));
        is("matched with none", 0, x.matched());
        is("check with none", 0, x.check());
        is("best of none", NONE, x.best(0));
    }

    private static void starAndSpot() {
        sentence(2, "BEYOND: x or y isn't as told.");
        outside("x of a star", 0, 199, (x, v) -> x.star(v, 5));
        outside("y of a star", 0, 199, (x, v) -> x.star(5, v));
        FallingLight x = new FallingLight();
        is("least x and y", 0, x.star(0, 0));
        is("most x", 1, x.star(199, 0));
        is("most y", 2, x.star(0, 199));
        is("most x and y", 3, x.star(199, 199));
        sentence(2, "FULL.");
        FallingLight y = new FallingLight();
        for (int k = 0; k < 12; k++) {
            is("star " + k, k, y.star(k, k));
        }
        is("star 12", FULL, y.star(12, 12));
        is("spots have room", 0, y.spot(12, 12));
        refusedIn(World::full, "a star too many", FULL, w -> w.star(0, 0), w -> w.star(199, 199));
        sentence(3, "BEYOND, FULL likewise.");
        outside("u of a spot", 0, 199, (w, v) -> w.spot(v, 5));
        outside("v of a spot", 0, 199, (w, v) -> w.spot(5, v));
        FallingLight z = new FallingLight();
        for (int k = 0; k < 10; k++) {
            is("spot " + k, k, z.spot(k % 2 * 199, k / 2 % 2 * 199));
        }
        is("spot 10", FULL, z.spot(10, 10));
        is("stars have room", 0, z.star(12, 12));
        refusedIn(World::full, "a spot too many", FULL, w -> w.spot(0, 0), w -> w.spot(199, 199));
    }

    private static void rows() {
        sentence(4, "Rows of shorts come: row r (0, 1) has n places, all -1;");
        FallingLight x = new FallingLight();
        is("the longest row", 24, x.row(0, 24));
        is("the other row is still missing", NONE, x.put(1, 0, 1));
        is("its last place", 7, x.put(0, 23, 7));
        is("a place not put is -1", BEYOND, x.load(0, 22, 2, true));
        x.put(0, 22, 7);
        is("both put", 1, x.load(0, 22, 2, true));
        is("a row of none", 0, x.row(1, 0));
        is("it has no place", BEYOND, x.put(1, 0, 1));
        is("but isn't missing", 0, x.load(1, 0, 0, true));
        is("the first row again", 24, x.row(0, 24));
        is("all -1 again", BEYOND, x.load(0, 22, 2, true));
        row(x, 0, 7, 7);
        x.row(0, 2);
        x.put(0, 1, 7);
        is("the first place, too", BEYOND, x.load(0, 0, 2, true));
        x.row(0, 24);
        is("a row of one", 1, x.row(1, 1));
        is("its only place", 5, x.put(1, 0, 5));
        is("no second place", BEYOND, x.put(1, 1, 5));
        sentence(4, "n -1: it is MISSING: n.");
        is("missing", -1, x.row(0, -1));
        is("no place now", NONE, x.put(0, 0, 1));
        is("missing again", -1, x.row(0, -1));
        is("the other row stands", 5, x.put(1, 0, 5));
        sentence(4, "BEYOND: there is no such row.");
        outside("r", 0, 1, (w, v) -> w.row(v, 3));
        outside("r of a missing one", 0, 1, (w, v) -> w.row(v, -1));
        sentence(4, "SIZE: n is below -1.");
        refused("row 0", SIZE, w -> w.row(0, -2), w -> w.row(0, MIN), w -> w.row(0, -65536), w -> w.row(0, MIN + 1));
        refused("row 1", SIZE, w -> w.row(1, -2), w -> w.row(1, -65530));
        sentence(4, "BEYOND: n is above 24.");
        refused("row 0", BEYOND, w -> w.row(0, 25), w -> w.row(0, MAX), w -> w.row(0, 65536), w -> w.row(0, 256));
        refused("row 1", BEYOND, w -> w.row(1, 25), w -> w.row(1, 65537));
    }

    private static void puts() {
        sentence(5, "Place i of a row becomes v as a short casts it: that.");
        FallingLight x = new FallingLight();
        x.row(0, 2);
        int[] given = {32767, 32768, -32768, -32769, 65535, 65536, 65735, -65536, MIN, MAX, -1, 0};
        long[] due = {32767, -32768, -32768, 32767, -1, 0, 199, 0, 0, -1, -1, 0};
        for (int k = 0; k < given.length; k++) {
            is("put of " + given[k], due[k], x.put(0, 0, given[k]));
        }
        x.put(0, 1, 65735);
        is("65735 is 199 in the row, too", 1, x.load(0, 0, 2, false));
        x.put(0, 1, 65736);
        is("65736 is 200 in the row, too", BEYOND, x.load(0, 0, 2, false));
        sentence(5, "BEYOND: there is no such row.");
        outside("r", 0, 1, (w, v) -> w.put(v, 0, 3));
        sentence(5, "NONE: it is MISSING.");
        refused("row 1", NONE, w -> w.put(1, 0, 3), w -> w.put(1, -1, 3), w -> w.put(1, MAX, 3));
        sentence(5, "BEYOND: it has no such place.");
        outside("i", 0, 9, (w, v) -> w.put(0, v, 3));
        is("the last place", 4, World.rich().put(0, 9, 4));
        is("the first place", 4, World.rich().put(0, 0, 4));
    }

    private static void loads() {
        sentence(6, "SPOTS (stars: STARS) come in place of all there were, of a row's places from i on,"
                + " n of them, by twos (x, y): how many.");
        FallingLight x = World.rich();
        is("no places: all spots are gone", 0, x.load(0, 0, 0, false));
        is("no spots", 0, x.count(1));
        is("stars stand", 6, x.count(0));
        is("no places from the end on: all stars are gone", 0, x.load(0, 10, 0, true));
        is("no stars", 0, x.count(0));
        is("fewer than there were", 1, World.rich().load(0, 0, 2, true));
        FallingLight y = new FallingLight();
        row(y, 1, 0, 199, 0, 0, 199, 0, 199, 1);
        is("the row to its end", 4, y.load(1, 0, 8, false));
        is("the last two places", 1, y.load(1, 6, 2, true));
        is("from an odd place on", 3, y.load(1, 1, 6, true));
        // (199, 0), (0, 199), (0, 199): two at one point.
        is("by twos from there", NONE, y.corner(0, 1, 2, 0, true));
        row(y, 0, 5, 50, 10, 20, 60, 75, 7, 3);
        is("three more in their place", 3, y.load(0, 1, 6, true));
        // (50, 10), (20, 60), (75, 7): squares 3400 of 01, 634 of 02, 5834 of 12; (55, -53) x (30, -50) is -1160.
        is("FIRST of those", 1, y.corner(0, 1, 2, 0, true));
        is("TURN of those", -1, y.corner(0, 1, 2, 3, true));
        x = World.rich();
        is("matched before", 4, x.matched());
        row(x, 1, 75, 75, 5, 5, 55, 10, 20, 60);
        x.load(1, 0, 6, false);
        is("matched behind three spots", 0, x.matched());
        x.load(1, 0, 8, false);
        is("match behind four spots", 4, x.match(0));
    }

    private static void loadsFull() {
        sentence(6, "FULL: there would be too many.");
        int[] places = new int[24];
        for (int k = 0; k < 24; k++) {
            places[k] = 8 * k;
        }
        FallingLight z = new FallingLight();
        row(z, 0, places);
        is("12 stars", 12, z.load(0, 0, 24, true));
        is("10 spots", 10, z.load(0, 4, 20, false));
        is("11 spots", FULL, z.load(0, 2, 22, false));
        is("12 spots", FULL, z.load(0, 0, 24, false));
        is("as many as were there", 10, z.count(1));
        refusedIn(() -> longRow(places), "spots of a long row", FULL, w -> w.load(1, 0, 22, false),
                w -> w.load(1, 2, 22, false), w -> w.load(1, 0, 24, false));
        is("too many for spots, not for stars", 11, longRow(places).load(1, 0, 22, true));
    }

    private static FallingLight longRow(int[] places) {
        FallingLight x = World.rich();
        row(x, 1, places);
        return x;
    }

    private static void loadFindings() {
        sentence(6, "BEYOND: there is no such row.");
        outside("r, to spots", 0, 1, (x, v) -> x.load(v, 0, 0, false));
        outside("r, to stars", 0, 1, (x, v) -> x.load(v, 0, 2, true));
        sentence(6, "NONE: it is MISSING.");
        refused("row 1", NONE, x -> x.load(1, 0, 0, false), x -> x.load(1, 0, 2, true), x -> x.load(1, -1, 24, true));
        sentence(6, "SIZE: n is below 0, or odd.");
        refused("n below 0", SIZE, x -> x.load(0, 0, -2, false), x -> x.load(0, 4, -4, true),
                x -> x.load(0, 0, MIN, true), x -> x.load(0, 0, -65536, true));
        refused("n odd", SIZE, x -> x.load(0, 0, 1, false), x -> x.load(0, 0, 3, true), x -> x.load(0, 0, 7, true),
                x -> x.load(0, 0, MAX, false));
        refused("n odd and below 0", SIZE, x -> x.load(0, 0, -1, false), x -> x.load(0, 3, -3, true),
                x -> x.load(0, 0, MIN + 1, true));
        sentence(6, "BEYOND: it has no such places, or one isn't 0 .. 199.");
        refused("i", BEYOND, x -> x.load(0, -1, 2, false), x -> x.load(0, -2, 4, true), x -> x.load(0, MIN, 2, false),
                x -> x.load(0, 10, 2, true), x -> x.load(0, MAX, 2, true), x -> x.load(0, 65536, 2, true));
        refused("i and n", BEYOND, x -> x.load(0, 9, 2, false), x -> x.load(0, 1, 10, true), x -> x.load(0, 0, 12, true),
                x -> x.load(0, 0, MAX - 1, true), x -> x.load(0, MAX, MAX - 1, true), x -> x.load(0, 2, MAX - 1, true),
                x -> x.load(0, MIN, 0, true), x -> x.load(0, 0, 65538, false));
        refused("no places from there on", BEYOND, x -> x.load(0, -1, 0, false), x -> x.load(0, 11, 0, true));
        refused("one isn't 0 .. 199", BEYOND, x -> x.load(0, 8, 2, false), x -> x.load(0, 7, 2, true),
                x -> x.load(0, 0, 10, true), x -> x.load(0, 2, 8, false));
        FallingLight z = new FallingLight();
        row(z, 0, SCATTERED);
        is("24 places to their end", 1, z.load(0, 22, 2, true));
        is("one place behind the end", BEYOND, z.load(0, 23, 2, true));
        is("two places behind the end", BEYOND, z.load(0, 22, 4, true));
        is("all and one more", BEYOND, z.load(0, 1, 24, true));
        is("all and two more", BEYOND, z.load(0, 0, 26, true));
        is("from one ahead on", BEYOND, z.load(0, -1, 24, true));
        is("from behind the end on", BEYOND, z.load(0, 24, 2, true));
        FallingLight y = new FallingLight();
        row(y, 0, 0, 199, 200, 0, 0, 200, -1, 0, 0, -1, 0, 0);
        is("0 and 199", 1, y.load(0, 0, 2, true));
        is("x is 200", BEYOND, y.load(0, 2, 2, true));
        is("y is 200", BEYOND, y.load(0, 4, 2, true));
        is("x is -1", BEYOND, y.load(0, 6, 2, true));
        is("y is -1", BEYOND, y.load(0, 8, 2, true));
        is("the last two are good", 1, y.load(0, 10, 2, true));
        is("the second of two is bad", BEYOND, y.load(0, 0, 4, true));
        is("the first of two is bad", BEYOND, y.load(0, 8, 4, true));
    }

    private static void clears() {
        sentence(7, "All SPOTS (stars: STARS) are gone: how many there were.");
        FallingLight x = World.rich();
        is("spots", 5, x.clear(false));
        is("no spot is left", 0, x.count(1));
        is("no spots", 0, x.clear(false));
        is("stars stand", 6, x.clear(true));
        is("no stars", 0, x.clear(true));
        is("no spot 0", BEYOND, x.match(0));
        is("the first one again", 0, x.spot(1, 1));
        FallingLight y = World.full();
        is("as many stars as there may be", 12, y.clear(true));
        is("as many spots as there may be", 10, y.clear(false));
        for (int k = 0; k < 12; k++) {
            is("room for star " + k, k, y.star(1, 1));
        }
        is("no room for star 12", FULL, y.star(1, 1));
    }

    private static void nears() {
        sentence(8, "T is so: what it was.");
        FallingLight x = new FallingLight();
        is("the least", 5, x.near(0));
        is("the most", 0, x.near(99));
        is("the same again", 99, x.near(99));
        is("another", 99, x.near(1));
        sentence(8, "BEYOND.");
        outside("t", 0, 99, (w, v) -> w.near(v));
        is("T stands behind it", 99, refusedNear());
    }

    private static long refusedNear() {
        FallingLight x = new FallingLight();
        x.near(99);
        x.near(100);
        x.near(-1);
        return x.near(3);
    }

    private static void corners() {
        sentence(9, "BEYOND: there is no such one, two are the same, or another k.");
        outside("a of spots", 0, 4, (x, v) -> x.corner(v, 1, 2, 0, false));
        outside("b of spots", 0, 4, (x, v) -> x.corner(0, v, 2, 0, false));
        outside("c of spots", 0, 4, (x, v) -> x.corner(0, 1, v, 0, false));
        outside("a of stars", 0, 5, (x, v) -> x.corner(v, 1, 2, 0, true));
        outside("b of stars", 0, 5, (x, v) -> x.corner(0, v, 2, 0, true));
        outside("c of stars", 0, 5, (x, v) -> x.corner(0, 1, v, 0, true));
        outside("k of spots", 0, 3, (x, v) -> x.corner(0, 1, 2, v, false));
        outside("k of stars", 0, 3, (x, v) -> x.corner(0, 1, 2, v, true));
        refused("two the same", BEYOND, x -> x.corner(1, 1, 2, 0, true), x -> x.corner(1, 2, 1, 1, true),
                x -> x.corner(2, 1, 1, 2, false), x -> x.corner(1, 1, 1, 3, false));
        // Squares 16000 of 05, 9700 of 45, 23300 of 04.
        is("the last star", 5, World.rich().corner(5, 0, 4, 2, true));
        refusedIn(FallingLight::new, "none at all", BEYOND, x -> x.corner(0, 1, 2, 0, true), x -> x.corner(0, 1, 2, 3, false));
        FallingLight two = new FallingLight();
        stars(two, 1, 1, 5, 2);
        is("two only", BEYOND, two.corner(0, 1, 2, 0, true));
        sentence(9, "NONE: it isn't GOOD.");
        FallingLight y = new FallingLight();
        stars(y, 0, 0, 199, 199, 99, 99, 198, 0, 0, 0, 0, 1);
        is("in a line", NONE, y.corner(0, 1, 2, 0, true));
        is("TURN of those", NONE, y.corner(0, 1, 2, 3, true));
        is("two sides alike", NONE, y.corner(0, 2, 3, 1, true));
        is("two at one point", NONE, y.corner(0, 4, 1, 2, true));
        // Squares 78805 of 15, 19405 of 25, 20000 of 12; (-199, -198) x (-100, -100) is 100.
        is("hardly off a line", 1, y.corner(5, 1, 2, 3, true));
        spots(y, 7, 7, 7, 7, 7, 7);
        is("three at one point", NONE, y.corner(0, 1, 2, 0, false));
        refusedIn(World::full, "not GOOD", NONE, x -> x.corner(6, 7, 0, 0, true), x -> x.corner(8, 9, 0, 3, false));
    }

    private static void votes() {
        sentence(10, "BEYOND: there is no such SPOT or STAR.");
        outside("spot", 0, 4, (x, v) -> x.votes(v, 0));
        outside("star", 0, 5, (x, v) -> x.votes(0, v));
        is("the last of both", 1, World.rich().votes(4, 5));
        refusedIn(FallingLight::new, "none at all", BEYOND, x -> x.votes(0, 0));
        FallingLight x = new FallingLight();
        stars(x, 1, 1, 9, 2, 4, 50);
        is("no spots", BEYOND, x.votes(0, 0));
        FallingLight y = new FallingLight();
        spots(y, 1, 1, 9, 2, 4, 50);
        is("no stars", BEYOND, y.votes(0, 0));
        y.star(3, 3);
        is("one star, no triangle", 0, y.votes(2, 0));
    }

    private static void matches() {
        sentence(11, "BEYOND.");
        outside("spot", 0, 4, (x, v) -> x.match(v));
        refusedIn(FallingLight::new, "none at all", BEYOND, x -> x.match(0));
        FallingLight stars = new FallingLight();
        stars(stars, 1, 1, 9, 2, 4, 50);
        is("stars alone", BEYOND, stars.match(0));
        sentence(11, "NONE: it has none.");
        refused("the spot by itself", NONE, x -> x.match(4));
        FallingLight spots = new FallingLight();
        spots(spots, 1, 1, 9, 2, 4, 50);
        is("spots alone", NONE, spots.match(2));
        sentence(12, "How many SPOTS have a MATCH.");
        is("spots alone", 0, spots.matched());
        is("stars alone", 0, stars.matched());
        is("not all of them", 4, World.rich().matched());
        is("none", 0, new FallingLight().matched());
    }

    private static void tables() {
        sentence(13, "BEYOND.");
        outside("k", 0, 2, (x, v) -> x.table(v));
        is("the first one", 0, World.rich().table(0));
        is("the last one", 2, World.rich().table(2));
        sentence(13, "NONE: there is no TABLE.");
        refusedIn(FallingLight::new, "a new object", NONE, x -> x.table(0), x -> x.table(1), x -> x.table(2));
        FallingLight x = World.rich();
        x.clear(true);
        is("no stars", NONE, x.table(0));
        refusedIn(TermEdges::matchedInLine, "all in a line", NONE, w -> w.table(0), w -> w.table(2));
        is("four have a match there", 4, TermEdges.matchedInLine().matched());
    }

    private static void places() {
        sentence(14, "BEYOND: u or v isn't 0 .. 199.");
        outside("u", 0, 199, (x, v) -> x.place(v, 5, false, false));
        outside("v", 0, 199, (x, v) -> x.place(5, v, true, true));
        FallingLight x = World.rich();
        is("the least", 0, x.place(0, 0, false, false));
        is("the most", 398, x.place(199, 199, true, false));
        sentence(14, "NONE: there is no TABLE.");
        refusedIn(FallingLight::new, "a new object", NONE, w -> w.place(0, 0, false, false), w -> w.place(199, 199, true, true));
        refusedIn(TermEdges::matchedInLine, "all in a line", NONE, w -> w.place(5, 5, false, false));
        x.clear(false);
        is("no spots", NONE, x.place(5, 5, false, true));
    }
}
