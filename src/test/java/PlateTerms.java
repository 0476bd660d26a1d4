import java.util.ArrayList;
import java.util.List;
import java.util.Random;

/** The terms of stars and spots on plates from fixed seeds: each answer is held against its definition. */
final class PlateTerms extends Edges {
    private static final int[][] ORDERS = {{0, 1, 2}, {0, 2, 1}, {1, 0, 2}, {1, 2, 0}, {2, 0, 1}, {2, 1, 0}};

    private PlateTerms() {
    }

    static void all() {
        numbers();
        triangles();
        cornersAndTurns();
        like();
        votes();
        matches();
        tables();
    }

    /** Stars anywhere, and spots that are some of them shrunk and shaken. */
    private static final class Plate {
        final int[][] stars;
        final int[][] spots;
        final int near;

        Plate(long seed, int starCount, int spotCount) {
            Random random = new Random(seed);
            int span = new int[] {8, 30, 180, 180}[random.nextInt(4)];
            int shrink = 1 + random.nextInt(2);
            int shake = random.nextInt(3);
            near = random.nextInt(4) == 0 ? random.nextInt(100) : random.nextInt(12);
            stars = new int[starCount][];
            for (int k = 0; k < starCount; k++) {
                stars[k] = new int[] {random.nextInt(span), random.nextInt(span)};
            }
            spots = new int[spotCount][];
            for (int k = 0; k < spotCount; k++) {
                int[] from = stars[(5 * k + 3) % starCount];
                spots[k] = new int[] {from[0] / shrink + random.nextInt(shake + 1), from[1] / shrink + random.nextInt(shake + 1)};
            }
        }

        Plate(int[][] stars, int[][] spots, int near) {
            this.stars = stars;
            this.spots = spots;
            this.near = near;
        }

        FallingLight light() {
            FallingLight x = new FallingLight();
            for (int[] at : stars) {
                x.star(at[0], at[1]);
            }
            for (int[] at : spots) {
                x.spot(at[0], at[1]);
            }
            x.near(near);
            return x;
        }

        /** The plate of three stars and three spots alone. */
        Plate threes(int[] ofStars, int[] ofSpots) {
            return new Plate(picked(stars, ofStars), picked(spots, ofSpots), near);
        }

        private static int[][] picked(int[][] points, int[] numbers) {
            return new int[][] {points[numbers[0]], points[numbers[1]], points[numbers[2]]};
        }
    }

    private static long square(int[] p, int[] q) {
        return (long) (p[0] - q[0]) * (p[0] - q[0]) + (long) (p[1] - q[1]) * (p[1] - q[1]);
    }

    private static long cross(int[] from, int[] p, int[] q) {
        return (long) (p[0] - from[0]) * (q[1] - from[1]) - (long) (p[1] - from[1]) * (q[0] - from[0]);
    }

    private static boolean isGood(int[] p, int[] q, int[] r) {
        return square(p, q) != square(q, r) && square(q, r) != square(p, r) && square(p, q) != square(p, r)
                && cross(p, q, r) != 0;
    }

    private static List<int[]> threes(int n) {
        List<int[]> all = new ArrayList<>();
        for (int a = 0; a < n; a++) {
            for (int b = a + 1; b < n; b++) {
                for (int c = b + 1; c < n; c++) {
                    all.add(new int[] {a, b, c});
                }
            }
        }
        return all;
    }

    private static void numbers() {
        sentence(TERMS, "1. STARS 0, 1, .. (at most 12) and SPOTS 0, 1, .. (at most 10) are points (x, y; each 0 .. 199;");
        FallingLight x = new FallingLight();
        for (int k = 0; k < 12; k++) {
            is("star " + k, k, x.star(SCATTERED[2 * k], SCATTERED[2 * k + 1]));
            is("spot " + k, k < 10 ? k : FULL, x.spot(SCATTERED[2 * k + 1], 199 - SCATTERED[2 * k]));
        }
        is("star 12", FULL, x.star(0, 0));
        x.near(0);
        // The spots are the stars turned by a quarter, so that each is told by its own x and y.
        for (int k = 0; k < 10; k++) {
            is("spot " + k + " is star " + k, k, x.match(k));
            is("star " + k + ", x", SCATTERED[2 * k], x.place(SCATTERED[2 * k + 1], 199 - SCATTERED[2 * k], false, false));
            is("star " + k + ", y", SCATTERED[2 * k + 1], x.place(SCATTERED[2 * k + 1], 199 - SCATTERED[2 * k], true, false));
        }
    }

    private static void triangles() {
        sentence(TERMS, "A TRIANGLE of three points (of unlike numbers): the squares of its sides;");
        for (int seed = 1; seed <= 20; seed++) {
            Plate plate = new Plate(seed, 4, 4);
            FallingLight x = plate.light();
            for (int[] three : threes(4)) {
                for (int[] o : ORDERS) {
                    for (int k = 0; k < 4; k++) {
                        is("the three in another order", x.corner(three[0], three[1], three[2], k, true),
                                x.corner(three[o[0]], three[o[1]], three[o[2]], k, true));
                    }
                }
                is("two of one number", BEYOND, x.corner(three[0], three[1], three[0], 0, true));
            }
        }
    }

    private static void cornersAndTurns() {
        sentence(TERMS, "A GOOD one's CORNERS: FIRST lies over against (isn't an end of) the shortest side,"
                + " SECOND the middle one, THIRD the longest;");
        for (int seed = 1; seed <= 200; seed++) {
            Plate plate = new Plate(seed, 6, 6);
            FallingLight x = plate.light();
            for (int[] three : threes(6)) {
                corners(x, plate.stars, three, true);
                corners(x, plate.spots, three, false);
            }
        }
    }

    private static void corners(FallingLight x, int[][] at, int[] three, boolean stars) {
        long first = x.corner(three[2], three[0], three[1], 0, stars);
        boolean good = isGood(at[three[0]], at[three[1]], at[three[2]]);
        is("GOOD", good ? 1 : 0, first == NONE ? 0 : 1);
        if (!good || first == NONE) {
            return;
        }
        int[] f = at[(int) first];
        int[] s = at[(int) x.corner(three[1], three[2], three[0], 1, stars)];
        int[] t = at[(int) x.corner(three[0], three[1], three[2], 2, stars)];
        is("over against FIRST is shorter than over against SECOND", 1, square(s, t) < square(f, t) ? 1 : 0);
        is("over against SECOND is shorter than over against THIRD", 1, square(f, t) < square(f, s) ? 1 : 0);
        is("TURN", cross(f, s, t) > 0 ? 1 : -1, x.corner(three[0], three[1], three[2], 3, stars));
    }

    private static void like() {
        sentence(TERMS, "Two GOOD ones are LIKE, by T (0 .. 99; 5 at first), if their TURNS are alike,");
        int[] told = new int[2];
        for (int seed = 1; seed <= 3000; seed++) {
            Plate plate = new Plate(seed, 3, 3);
            boolean like = isLike(plate.stars, plate.spots, plate.near);
            told[like ? 1 : 0]++;
            is("seed " + seed, like ? 3 : 0, allVotes(plate.light()));
        }
        is("both come often", 1, told[0] > 300 && told[1] > 300 ? 1 : 0);
    }

    /** The corners in their order, and shares of the longest side's square. */
    private static boolean isLike(int[][] stars, int[][] spots, int near) {
        if (!isGood(stars[0], stars[1], stars[2]) || !isGood(spots[0], spots[1], spots[2])) {
            return false;
        }
        int[][] p = inOrder(stars);
        int[][] q = inOrder(spots);
        return (cross(p[0], p[1], p[2]) > 0) == (cross(q[0], q[1], q[2]) > 0)
                && isNear(square(p[1], p[2]), square(p[0], p[1]), square(q[1], q[2]), square(q[0], q[1]), near)
                && isNear(square(p[0], p[2]), square(p[0], p[1]), square(q[0], q[2]), square(q[0], q[1]), near);
    }

    private static int[][] inOrder(int[][] at) {
        for (int[] o : ORDERS) {
            int[][] p = {at[o[0]], at[o[1]], at[o[2]]};
            if (square(p[1], p[2]) < square(p[0], p[2]) && square(p[0], p[2]) < square(p[0], p[1])) {
                return p;
            }
        }
        return at;
    }

    private static boolean isNear(long a, long c, long otherA, long otherC, int near) {
        Q apart = Q.of(a).by(Q.of(c)).minus(Q.of(otherA).by(Q.of(otherC)));
        Q most = Q.of(near).by(Q.of(100));
        return apart.compare(most) <= 0 && Q.of(0).minus(apart).compare(most) <= 0;
    }

    private static long allVotes(FallingLight x) {
        long sum = 0;
        for (int p = 0; p < 3; p++) {
            for (int q = 0; q < 3; q++) {
                sum += x.votes(p, q);
            }
        }
        return sum;
    }

    /** Each pair of threes, alone on a plate, has its votes; together they are those of the whole plate. */
    private static void votes() {
        sentence(TERMS, "VOTES of a SPOT and a STAR: the pairs of LIKE TRIANGLES, of SPOTS and of STARS,"
                + " in which they are the same CORNER.");
        for (int seed = 1; seed <= 60; seed++) {
            Plate plate = new Plate(seed, 5, 5);
            long[][] due = new long[5][5];
            for (int[] ofStars : threes(5)) {
                for (int[] ofSpots : threes(5)) {
                    FallingLight alone = plate.threes(ofStars, ofSpots).light();
                    for (int k = 0; k < 9; k++) {
                        due[ofSpots[k / 3]][ofStars[k % 3]] += alone.votes(k / 3, k % 3);
                    }
                }
            }
            FallingLight x = plate.light();
            for (int k = 0; k < 25; k++) {
                is("seed " + seed + ", votes(" + k / 5 + ", " + k % 5 + ")", due[k / 5][k % 5], x.votes(k / 5, k % 5));
            }
        }
    }

    private static long[][] allVotesOf(FallingLight x, int spots, int stars) {
        long[][] votes = new long[spots][stars];
        for (int p = 0; p < spots; p++) {
            for (int q = 0; q < stars; q++) {
                votes[p][q] = x.votes(p, q);
            }
        }
        return votes;
    }

    private static boolean isMatch(long[][] votes, int spot, int star) {
        boolean most = votes[spot][star] >= 2;
        for (int q = 0; q < votes[spot].length; q++) {
            most &= q == star || votes[spot][q] < votes[spot][star];
        }
        for (int p = 0; p < votes.length; p++) {
            most &= p == spot || votes[p][star] < votes[spot][star];
        }
        return most;
    }

    private static void matches() {
        sentence(TERMS, "MATCH of a SPOT: the STAR with which it has the most VOTES (2 at least, and more than with any other),"
                + " if that STAR has more VOTES with it than with any other SPOT.");
        int[] told = new int[2];
        for (int seed = 1; seed <= 200; seed++) {
            int stars = 4 + seed % 9;
            int spots = 4 + seed % 7;
            FallingLight x = new Plate(seed, stars, spots).light();
            long[][] votes = allVotesOf(x, spots, stars);
            long sum = 0;
            for (int p = 0; p < spots; p++) {
                long due = NONE;
                for (int q = 0; q < stars; q++) {
                    due = isMatch(votes, p, q) ? q : due;
                }
                told[due == NONE ? 0 : 1]++;
                sum += due == NONE ? 0 : 1;
                is("seed " + seed + ", match(" + p + ")", due, x.match(p));
            }
            is("seed " + seed + ", matched()", sum, x.matched());
        }
        is("both come often", 1, told[0] > 200 && told[1] > 200 ? 1 : 0);
    }

    private static void tables() {
        sentence(TERMS, "it takes each (u, v) to that point (X, Y), fractions, to which the only map x = p u + q v + r,"
                + " y likewise, takes it that takes those three to their STARS.");
        int[] told = new int[2];
        for (int seed = 1; seed <= 300; seed++) {
            Plate plate = new Plate(seed, 4 + seed % 9, 4 + seed % 7);
            FallingLight x = plate.light();
            long[] matches = new long[plate.spots.length];
            for (int p = 0; p < matches.length; p++) {
                matches[p] = x.match(p);
            }
            int[] due = tableBy(matches, plate);
            told[due == null ? 0 : 1]++;
            for (int k = 0; k < 3; k++) {
                is("seed " + seed + ", table(" + k + ")", due == null ? NONE : due[k], x.table(k));
            }
            if (due == null) {
                is("seed " + seed + ", no place", NONE, x.place(seed % 200, 5, false, false));
            } else {
                mapOf(x, plate, matches, due, seed);
            }
        }
        is("both come often", 1, told[0] > 60 && told[1] > 60 ? 1 : 0);
    }

    /** The first three spots with a match that aren't in a line, or null. */
    private static int[] tableBy(long[] matches, Plate plate) {
        for (int[] three : threes(plate.spots.length)) {
            boolean all = cross(plate.spots[three[0]], plate.spots[three[1]], plate.spots[three[2]]) != 0;
            for (int spot : three) {
                all &= matches[spot] != NONE;
            }
            if (all) {
                return three;
            }
        }
        return null;
    }

    /** The three spots go to their stars, and a step of u, or of v, is as long anywhere. */
    private static void mapOf(FallingLight x, Plate plate, long[] matches, int[] table, int seed) {
        Random random = new Random(seed);
        for (int axis = 0; axis < 2; axis++) {
            for (int spot : table) {
                long star = plate.stars[(int) matches[spot]][axis];
                int[] at = plate.spots[spot];
                isFraction("seed " + seed + ", spot " + spot, star, 1,
                        x.place(at[0], at[1], axis == 1, false), x.place(at[0], at[1], axis == 1, true));
            }
            Q nought = placed(x, 0, 0, axis);
            Q alongU = placed(x, 1, 0, axis).minus(nought);
            Q alongV = placed(x, 0, 1, axis).minus(nought);
            for (int k = 0; k < 5; k++) {
                int u = random.nextInt(200);
                int v = random.nextInt(200);
                Q due = nought.plus(alongU.times(Q.of(u))).plus(alongV.times(Q.of(v)));
                isFraction("seed " + seed + ", (" + u + ", " + v + ")", due.tell(false), due.tell(true),
                        x.place(u, v, axis == 1, false), x.place(u, v, axis == 1, true));
            }
        }
    }

    private static Q placed(FallingLight x, int u, int v, int axis) {
        return Q.of(x.place(u, v, axis == 1, false)).by(Q.of(x.place(u, v, axis == 1, true)));
    }
}
