import java.util.ArrayList;
import java.util.List;

/** Objects in which there is something of everything, and a picture of all that an object tells. */
final class World {
    private World() {
    }

    /**
     * 6 stars and 5 spots (0 to 3 have matches 1 to 4, 4 has none), T 4, row 0 of ten places (the last two
     * can't be points), row 1 missing, the tape 1, 2, 3, 4, wind in each layer, and sights: of meteor 0 two
     * plain ones, a BLURRED one and a LONG one without a plane, of 1 a LONG one and a plain one without a
     * plane, of 2 a BLURRED one without a plane, of 3 none, of 4 and 5 one each, in planes alike.
     */
    static FallingLight rich() {
        FallingLight x = new FallingLight();
        plate(x);
        x.near(4);
        Edges.row(x, 0, 10, 20, 130, 40, 60, 170, 90, 199, -1, 200);
        sky(x);
        for (int k = 0; k < 10; k++) {
            x.wind(k, k, 9 - 2 * k);
        }
        Edges.tape(x, 1, 2, 3, 4);
        return x;
    }

    private static void plate(FallingLight x) {
        Edges.stars(x, 20, 70, 10, 10, 110, 20, 40, 120, 150, 150, 60, 190);
        Edges.spots(x, 5, 5, 55, 10, 20, 60, 75, 75, 100, 1);
    }

    private static void sky(FallingLight x) {
        x.station(1, 60, 0, 1);
        x.station(2, -20, 30, 5);
        x.station(3, 99, -99, 9);
        Edges.sight(x, 0, 0, 0, 1, 2, 5, -1, 3, 4);
        Edges.sight(x, 0, 0, 1, -4, 2, 5, -6, 3, 4);
        Edges.sight(x, 0, 2, 2, 1, 2, 3, 3, 2, -1);
        Edges.sight(x, 0, 1, 3, 1, 2, 3, 2, 4, 6, 1, 1, 1);
        Edges.sight(x, 1, 1, 1, 1, 0, 2, 0, 3, 1, 4, 5, 6);
        Edges.sight(x, 1, 0, 2, 1, 2, 3, -1, -2, -3);
        Edges.sight(x, 2, 2, 3, 9, 9, 9, 9, 9, 9);
        Edges.sight(x, 4, 0, 0, 1, 0, 0, 0, 1, 0);
        Edges.sight(x, 5, 0, 1, 0, 2, 0, 2, 0, 0);
    }

    /** All stars, spots and numbers of the tape that there may be, and all sights of meteor 5. */
    static FallingLight full() {
        FallingLight x = new FallingLight();
        Edges.stars(x, 20, 70, 10, 10, 110, 20, 40, 120, 150, 150, 199, 3, 7, 7, 7, 7, 180, 60, 33, 191, 0, 199, 66, 5);
        Edges.spots(x, 5, 5, 55, 10, 20, 60, 75, 75, 100, 1, 150, 150, 10, 199, 199, 10, 42, 17, 42, 17);
        for (int k = 0; k < 4; k++) {
            Edges.sight(x, 5, 0, k, 1, k, 5, -1, 3, 4);
        }
        Edges.tape(x, 1, 2, 3, 4, 5, 6, 7, 8, 9);
        return x;
    }

    /** All that an object tells, but for found(); afterwards the object isn't what it was. */
    static List<String> picture(FallingLight x) {
        List<String> all = new ArrayList<>();
        for (int what = 0; what < 9; what++) {
            tell(all, "count(" + what + ")", x.count(what));
        }
        picturePlate(all, x);
        for (int m = 0; m < 6; m++) {
            pictureSights(all, x, m);
            tell(all, "best(" + m + ")", x.best(m));
            for (int b = m + 1; b < 6; b++) {
                tell(all, "shower(" + m + ", " + b + ")", x.shower(m, b));
                tell(all, "radiant(" + m + ", " + b + ", 2)", x.radiant(m, b, 2));
            }
        }
        tell(all, "T", x.near(50));
        tell(all, "check()", x.check());
        pictureRows(all, x);
        return all;
    }

    private static void picturePlate(List<String> all, FallingLight x) {
        long stars = x.count(0);
        long spots = x.count(1);
        for (int a = 0; a < 5; a++) {
            for (int b = a + 1; b < 5; b++) {
                tell(all, "corner of stars " + a + b, x.corner(a, b, 5, 0, true));
                tell(all, "corner of spots " + a + b, x.corner(a, b, (b + 1) % 5, 1, false));
            }
        }
        for (int p = 0; p < spots; p++) {
            tell(all, "match(" + p + ")", x.match(p));
            for (int q = 0; q < stars; q++) {
                tell(all, "votes(" + p + ", " + q + ")", x.votes(p, q));
            }
        }
        tell(all, "matched()", x.matched());
        for (int k = 0; k < 3; k++) {
            tell(all, "table(" + k + ")", x.table(k));
        }
        tell(all, "place, x", x.place(3, 7, false, false));
        tell(all, "place, y", x.place(190, 11, true, false));
    }

    private static void pictureSights(List<String> all, FallingLight x, int m) {
        long sights = x.count(3 + m);
        for (int s = 0; s < sights; s++) {
            for (int what = 0; what < 6; what++) {
                tell(all, "about(" + m + ", " + s + ", " + what + ")", x.about(m, s, what));
            }
            for (int t = 0; t < sights; t++) {
                if (s != t) {
                    String by = " of " + m + " by " + s + ", " + t;
                    tell(all, "BEGIN's x" + by, x.point(m, s, t, false, 0, false));
                    tell(all, "END's y" + by, x.point(m, s, t, true, 1, false));
                    tell(all, "fall" + by, x.fall(m, s, t, 0));
                    tell(all, "angle" + by, x.angle(m, s, t, true));
                    tell(all, "land" + by, x.land(m, s, t, true, false));
                    tell(all, "drift's x" + by, x.drift(m, s, t, false, false));
                    tell(all, "drift's y" + by, x.drift(m, s, t, true, false));
                }
            }
        }
    }

    private static void pictureRows(List<String> all, FallingLight x) {
        for (int r = 0; r < 2; r++) {
            tell(all, "load of eight places, row " + r, x.load(r, 0, 8, true));
            for (int k = 0; k < 4; k++) {
                tell(all, "corner 012, " + k, x.corner(0, 1, 2, k, true));
                tell(all, "corner 123, " + k, x.corner(1, 2, 3, k, true));
            }
            tell(all, "load of ten places, row " + r, x.load(r, 0, 10, true));
            tell(all, "load of twelve places, row " + r, x.load(r, 0, 12, true));
            tell(all, "put at 9, row " + r, x.put(r, 9, 5));
            tell(all, "put at 10, row " + r, x.put(r, 10, 5));
        }
    }

    private static void tell(List<String> all, String what, long got) {
        all.add(what + ": " + got);
    }
}
