import java.util.ArrayList;
import java.util.Arrays;
import java.util.List;
import java.util.Random;

/**
 * Long runs of calls, from fixed seeds, beside a second reading of the document that is
 * written from its definitions in big numbers and keeps nothing worked out between calls.
 */
public final class ModelTest {
    private static final int RUNS = 4000;
    private static final int CALLS = 512;

    static final class Finding extends RuntimeException {
        private static final long serialVersionUID = 1L;
        final int k;

        Finding(int k) {
            super(null, null, false, false);
            this.k = k;
        }
    }

    static final class Seen {
        int kind;
        int station;
        Q[] begin;
        Q[] end;
        Q[] middle;

        /** Null if it has none. */
        Q[] plane() {
            Q[] way = cross(begin, end);
            return isZero(way) ? null : way;
        }
    }

    static Q[] cross(Q[] a, Q[] b) {
        Q[] c = new Q[3];
        for (int i = 0; i < 3; i++) {
            int j = (i + 1) % 3;
            int k = (i + 2) % 3;
            c[i] = a[j].times(b[k]).minus(a[k].times(b[j]));
        }
        return c;
    }

    static Q dot(Q[] a, Q[] b) {
        Q sum = Q.of(0);
        for (int i = 0; i < 3; i++) {
            sum = sum.plus(a[i].times(b[i]));
        }
        return sum;
    }

    static boolean isZero(Q[] a) {
        return a[0].isZero() && a[1].isZero() && a[2].isZero();
    }

    /** The document, read anew. */
    static final class Model {
        List<int[]> stars = new ArrayList<>();
        List<int[]> spots = new ArrayList<>();
        int near = 5;
        short[][] rows = new short[2][];
        List<Integer> tape = new ArrayList<>();
        int[][] stations = new int[4][3];
        List<List<Seen>> meteors = new ArrayList<>();
        int[][] wind = new int[10][2];
        long[] found = new long[6];

        Model() {
            for (int m = 0; m < 6; m++) {
                meteors.add(new ArrayList<>());
            }
        }

        static void ask(boolean bad, int k) {
            if (bad) {
                throw new Finding(k);
            }
        }

        static boolean out(int v, int from, int to) {
            return v < from || v > to;
        }

        long call(int op, int[] a) {
            try {
                return answer(op, a);
            } catch (Finding f) {
                found[f.k]++;
                return -1000000000000000000L - f.k;
            }
        }

        long answer(int op, int[] a) {
            switch (op) {
                case 0: return add(stars, a, 12);
                case 1: return add(spots, a, 10);
                case 2: return row(a[0], a[1]);
                case 3: return put(a[0], a[1], a[2]);
                case 4: return load(a[0], a[1], a[2], a[3] != 0);
                case 5: {
                    List<int[]> points = a[0] != 0 ? stars : spots;
                    long was = points.size();
                    points.clear();
                    return was;
                }
                case 6: {
                    ask(out(a[0], 0, 99), 1);
                    long was = near;
                    near = a[0];
                    return was;
                }
                case 7: return corner(a[0], a[1], a[2], a[3], a[4] != 0 ? stars : spots);
                case 8:
                    ask(out(a[0], 0, spots.size() - 1) || out(a[1], 0, stars.size() - 1), 1);
                    return votes()[a[0]][a[1]];
                case 9: {
                    ask(out(a[0], 0, spots.size() - 1), 1);
                    int star = matches()[a[0]];
                    ask(star < 0, 2);
                    return star;
                }
                case 10: return Arrays.stream(matches()).filter(m -> m >= 0).count();
                case 11: {
                    ask(out(a[0], 0, 2), 1);
                    int[] table = table(matches());
                    ask(table == null, 2);
                    return table[a[0]];
                }
                case 12: return place(a[0], a[1], a[2] != 0, a[3] != 0);
                case 13:
                    ask(out(a[0], 0, 3) || out(a[1], -99, 99) || out(a[2], -99, 99) || out(a[3], 0, 9), 1);
                    stations[a[0]] = new int[] {a[1], a[2], a[3]};
                    return 1;
                case 14:
                    ask(tape.size() == 9, 4);
                    tape.add(a[0]);
                    return tape.size();
                case 15: return sight(a[0], a[1], a[2]);
                default: return later(op, a);
            }
        }

        long later(int op, int[] a) {
            switch (op) {
                case 16: {
                    ask(out(a[0], 0, 5), 1);
                    List<Seen> sights = meteors.get(a[0]);
                    ask(sights.isEmpty(), 2);
                    sights.remove(sights.size() - 1);
                    return sights.size();
                }
                case 17: return about(seen(a[0], a[1]), a[2]);
                case 18: {
                    Seen seen = seen(a[0], a[1]);
                    ask(out(a[2], 0, 2), 1);
                    ask(a[2] > 0 && a[2] != seen.kind, 3);
                    return seen.station;
                }
                case 19: {
                    Seen s = pair(a[0], a[1], a[2]);
                    ask(out(a[4], 0, 2), 1);
                    return point(s, seen(a[0], a[2]), a[3] != 0)[a[4]].tell(a[5] != 0);
                }
                case 20: {
                    Seen s = pair(a[0], a[1], a[2]);
                    ask(out(a[3], 0, 2), 1);
                    return meetWay(s.plane(), seen(a[0], a[2]).plane())[a[3]].tell(false);
                }
                case 21: return angle(pair(a[0], a[1], a[2]), seen(a[0], a[2])).tell(a[3] != 0);
                case 22: return best(a[0]);
                case 23: return land(a);
                case 24:
                    ask(out(a[0], 0, 9) || out(a[1], -9, 9) || out(a[2], -9, 9), 1);
                    wind[a[0]] = new int[] {a[1], a[2]};
                    return 1;
                case 25: return drift(a);
                case 26:
                    ask(out(a[0], 0, 5) || out(a[1], 0, 5) || a[0] == a[1] || out(a[2], 0, 2), 1);
                    return meetWay(first(a[0]), first(a[1]))[a[2]].tell(false);
                case 27: return shower(a[0], a[1]);
                case 28: return check();
                case 29:
                    ask(out(a[0], 0, 8), 1);
                    return a[0] == 0 ? stars.size() : a[0] == 1 ? spots.size()
                            : a[0] == 2 ? tape.size() : meteors.get(a[0] - 3).size();
                default:
                    ask(out(a[0], 1, 5), 1);
                    return found[a[0]];
            }
        }

        long add(List<int[]> points, int[] a, int limit) {
            ask(out(a[0], 0, 199) || out(a[1], 0, 199), 1);
            ask(points.size() == limit, 4);
            points.add(new int[] {a[0], a[1]});
            return points.size() - 1;
        }

        long row(int r, int n) {
            ask(out(r, 0, 1), 1);
            ask(n < -1, 5);
            ask(n > 24, 1);
            rows[r] = n < 0 ? null : new short[n];
            if (n >= 0) {
                Arrays.fill(rows[r], (short) -1);
            }
            return n;
        }

        long put(int r, int i, int v) {
            ask(out(r, 0, 1), 1);
            ask(rows[r] == null, 2);
            ask(out(i, 0, rows[r].length - 1), 1);
            rows[r][i] = (short) v;
            return (short) v;
        }

        long load(int r, int i, int n, boolean toStars) {
            ask(out(r, 0, 1), 1);
            ask(rows[r] == null, 2);
            ask(n < 0 || (n & 1) == 1, 5);
            ask(i < 0 || (long) i + n > rows[r].length, 1);
            List<int[]> come = new ArrayList<>();
            for (int k = i; k < i + n; k += 2) {
                ask(out(rows[r][k], 0, 199) || out(rows[r][k + 1], 0, 199), 1);
                come.add(new int[] {rows[r][k], rows[r][k + 1]});
            }
            ask(come.size() > (toStars ? 12 : 10), 4);
            if (toStars) {
                stars = come;
            } else {
                spots = come;
            }
            return come.size();
        }

        static long square(int[] p, int[] q) {
            return (long) (p[0] - q[0]) * (p[0] - q[0]) + (long) (p[1] - q[1]) * (p[1] - q[1]);
        }

        static long turn(int[] f, int[] s, int[] t) {
            return Long.signum((long) (s[0] - f[0]) * (t[1] - f[1]) - (long) (s[1] - f[1]) * (t[0] - f[0]));
        }

        /** Whether three points are, in this order, the corners of a good triangle. */
        static boolean inOrder(int[] f, int[] s, int[] t) {
            return square(s, t) < square(f, t) && square(f, t) < square(f, s) && turn(f, s, t) != 0;
        }

        long corner(int a, int b, int c, int k, List<int[]> points) {
            int last = points.size() - 1;
            ask(out(a, 0, last) || out(b, 0, last) || out(c, 0, last), 1);
            ask(a == b || b == c || a == c || out(k, 0, 3), 1);
            int[][] orders = {{a, b, c}, {a, c, b}, {b, a, c}, {b, c, a}, {c, a, b}, {c, b, a}};
            for (int[] o : orders) {
                if (inOrder(points.get(o[0]), points.get(o[1]), points.get(o[2]))) {
                    return k < 3 ? o[k] : turn(points.get(o[0]), points.get(o[1]), points.get(o[2]));
                }
            }
            throw new Finding(2);
        }

        /** Good triangles as {first, second, third, a, b, c, turn}. */
        static List<long[]> triangles(List<int[]> points) {
            List<long[]> all = new ArrayList<>();
            for (int f = 0; f < points.size(); f++) {
                for (int s = 0; s < points.size(); s++) {
                    for (int t = 0; t < points.size(); t++) {
                        int[] p = points.get(f);
                        int[] q = points.get(s);
                        int[] r = points.get(t);
                        if (inOrder(p, q, r)) {
                            all.add(new long[] {f, s, t, square(q, r), square(p, r), square(p, q), turn(p, q, r)});
                        }
                    }
                }
            }
            return all;
        }

        /** |u / w - v / x| times 100 is not above T. */
        boolean near(long u, long w, long v, long x) {
            return Math.abs(u * x - v * w) * 100 <= near * w * x;
        }

        long[][] votes() {
            long[][] votes = new long[spots.size()][stars.size()];
            List<long[]> ofStars = triangles(stars);
            for (long[] p : triangles(spots)) {
                for (long[] q : ofStars) {
                    if (p[6] == q[6] && near(p[3], p[5], q[3], q[5]) && near(p[4], p[5], q[4], q[5])) {
                        for (int k = 0; k < 3; k++) {
                            votes[(int) p[k]][(int) q[k]]++;
                        }
                    }
                }
            }
            return votes;
        }

        int[] matches() {
            long[][] votes = votes();
            int[] matches = new int[spots.size()];
            for (int spot = 0; spot < spots.size(); spot++) {
                matches[spot] = -1;
                for (int star = 0; star < stars.size(); star++) {
                    boolean most = votes[spot][star] >= 2;
                    for (int k = 0; k < stars.size(); k++) {
                        most &= k == star || votes[spot][k] < votes[spot][star];
                    }
                    for (int k = 0; k < spots.size(); k++) {
                        most &= k == spot || votes[k][star] < votes[spot][star];
                    }
                    if (most) {
                        matches[spot] = star;
                    }
                }
            }
            return matches;
        }

        int[] table(int[] matches) {
            List<Integer> have = new ArrayList<>();
            for (int k = 0; k < matches.length; k++) {
                if (matches[k] >= 0) {
                    have.add(k);
                }
            }
            for (int i = 0; i < have.size(); i++) {
                for (int j = i + 1; j < have.size(); j++) {
                    for (int k = j + 1; k < have.size(); k++) {
                        if (turn(spots.get(have.get(i)), spots.get(have.get(j)), spots.get(have.get(k))) != 0) {
                            return new int[] {have.get(i), have.get(j), have.get(k)};
                        }
                    }
                }
            }
            return null;
        }

        /** p, q and r are found by a division of determinants. */
        long place(int u, int v, boolean y, boolean below) {
            ask(out(u, 0, 199) || out(v, 0, 199), 1);
            int[] matches = matches();
            int[] table = table(matches);
            ask(table == null, 2);
            Q[][] m = new Q[3][];
            Q[] right = new Q[3];
            for (int k = 0; k < 3; k++) {
                int[] spot = spots.get(table[k]);
                m[k] = new Q[] {Q.of(spot[0]), Q.of(spot[1]), Q.of(1)};
                right[k] = Q.of(stars.get(matches[table[k]])[y ? 1 : 0]);
            }
            Q whole = dot(m[0], cross(m[1], m[2]));
            Q[] factors = {Q.of(u), Q.of(v), Q.of(1)};
            Q sum = Q.of(0);
            for (int k = 0; k < 3; k++) {
                Q[][] changed = new Q[3][];
                for (int i = 0; i < 3; i++) {
                    changed[i] = m[i].clone();
                    changed[i][k] = right[i];
                }
                sum = sum.plus(factors[k].times(dot(changed[0], cross(changed[1], changed[2])).by(whole)));
            }
            return sum.tell(below);
        }

        long sight(int meteor, int kind, int station) {
            ask(out(meteor, 0, 5) || out(kind, 0, 2) || out(station, 0, 3), 1);
            List<Integer> told = tape;
            tape = new ArrayList<>();
            ask(told.size() != (kind == 1 ? 9 : 6), 5);
            Q[][] ways = new Q[3][];
            for (int w = 0; w < told.size() / 3; w++) {
                ways[w] = new Q[3];
                for (int k = 0; k < 3; k++) {
                    ask(out(told.get(3 * w + k), -9, 9), 1);
                    ways[w][k] = Q.of(told.get(3 * w + k));
                }
                ask(isZero(ways[w]), 1);
            }
            List<Seen> sights = meteors.get(meteor);
            ask(sights.size() == 4, 4);
            Seen seen = new Seen();
            seen.kind = kind;
            seen.station = station;
            seen.begin = ways[0];
            seen.end = ways[1];
            seen.middle = ways[2];
            sights.add(seen);
            return sights.size() - 1;
        }

        Seen seen(int meteor, int sight) {
            ask(out(meteor, 0, 5), 1);
            ask(out(sight, 0, meteors.get(meteor).size() - 1), 1);
            return meteors.get(meteor).get(sight);
        }

        Seen pair(int meteor, int s, int t) {
            seen(meteor, t);
            ask(s == t, 1);
            return seen(meteor, s);
        }

        long about(Seen seen, int what) {
            ask(out(what, 0, 5), 1);
            if (what < 2) {
                return what == 0 ? seen.kind : seen.station;
            }
            ask(what == 5 && seen.kind != 1, 3);
            ask(seen.plane() == null, 2);
            return (what == 5 ? dot(seen.plane(), seen.middle) : seen.plane()[what - 2]).tell(false);
        }

        Q[] stationOf(Seen seen) {
            int[] at = stations[seen.station];
            return new Q[] {Q.of(at[0]), Q.of(at[1]), Q.of(at[2])};
        }

        Q[] point(Seen s, Seen t, boolean end) {
            ask(s.kind == 2, 3);
            Q[] plane = t.plane();
            ask(plane == null, 2);
            Q[] way = end ? s.end : s.begin;
            Q slope = dot(plane, way);
            ask(slope.isZero(), 2);
            Q steps = dot(plane, stationOf(t)).minus(dot(plane, stationOf(s))).by(slope);
            Q[] point = stationOf(s);
            for (int k = 0; k < 3; k++) {
                point[k] = point[k].plus(steps.times(way[k]));
            }
            return point;
        }

        static Q[] meetWay(Q[] a, Q[] b) {
            ask(a == null || b == null, 2);
            Q[] way = cross(a, b);
            ask(isZero(way), 2);
            return way;
        }

        static Q angle(Seen s, Seen t) {
            Q[] a = s.plane();
            Q[] b = t.plane();
            ask(a == null || b == null, 2);
            Q product = dot(a, b);
            return product.times(product).by(dot(a, a).times(dot(b, b)));
        }

        long best(int meteor) {
            ask(out(meteor, 0, 5), 1);
            List<Seen> sights = meteors.get(meteor);
            long best = -1;
            Q least = null;
            for (int s = sights.size() - 1; s >= 0; s--) {
                for (int t = sights.size() - 1; t >= 0; t--) {
                    try {
                        Seen one = pair(meteor, s, t);
                        Seen other = sights.get(t);
                        point(one, other, false);
                        meetWay(one.plane(), other.plane());
                        Q angle = angle(one, other);
                        if (least == null || angle.compare(least) <= 0) {
                            least = angle;
                            best = 10 * s + t;
                        }
                    } catch (Finding f) {
                        continue;
                    }
                }
            }
            ask(least == null, 2);
            return best;
        }

        long land(int[] a) {
            Seen s = pair(a[0], a[1], a[2]);
            Seen t = seen(a[0], a[2]);
            Q[] from = point(s, t, false);
            Q[] way = meetWay(s.plane(), t.plane());
            ask(way[2].isZero(), 2);
            Q steps = Q.of(0).minus(from[2]).by(way[2]);
            int axis = a[3] != 0 ? 1 : 0;
            return from[axis].plus(steps.times(way[axis])).tell(a[4] != 0);
        }

        long drift(int[] a) {
            Seen s = pair(a[0], a[1], a[2]);
            Q height = point(s, seen(a[0], a[2]), true)[2];
            ask(height.compare(Q.of(0)) < 0 || height.compare(Q.of(100)) > 0, 5);
            Q sum = Q.of(0);
            for (int k = 0; k < 10; k++) {
                Q much = height.minus(Q.of(10 * k));
                if (much.compare(Q.of(10)) > 0) {
                    much = Q.of(10);
                }
                if (much.compare(Q.of(0)) > 0) {
                    sum = sum.plus(much.times(Q.of(wind[k][a[3] != 0 ? 1 : 0])));
                }
            }
            return sum.tell(a[4] != 0);
        }

        Q[] first(int meteor) {
            for (Seen seen : meteors.get(meteor)) {
                if (seen.plane() != null) {
                    return seen.plane();
                }
            }
            return null;
        }

        long shower(int a, int b) {
            ask(out(a, 0, 5) || out(b, 0, 5) || a == b, 1);
            Q[] radiant = meetWay(first(a), first(b));
            long bits = 0;
            for (int m = 0; m < 6; m++) {
                boolean all = first(m) != null;
                for (Seen seen : meteors.get(m)) {
                    all &= seen.plane() == null || dot(seen.plane(), radiant).isZero();
                }
                bits += all ? 1 << m : 0;
            }
            return bits;
        }

        long check() {
            List<Integer> told = tape;
            tape = new ArrayList<>();
            int[] matches = matches();
            for (int k = 0; k < told.size(); k++) {
                if (k == matches.length) {
                    return 99;
                }
                if (told.get(k) != matches[k]) {
                    return 1 + k;
                }
            }
            return 0;
        }
    }

    static final String[] NAMES = {
        "star", "spot", "row", "put", "load", "clear", "near", "corner", "votes", "match", "matched",
        "table", "place", "station", "tell", "sight", "drop", "about", "as", "point", "fall", "angle",
        "best", "land", "wind", "drift", "radiant", "shower", "check", "count", "found"};

    static long real(FallingLight x, int op, int[] a) {
        switch (op) {
            case 0: return x.star(a[0], a[1]);
            case 1: return x.spot(a[0], a[1]);
            case 2: return x.row(a[0], a[1]);
            case 3: return x.put(a[0], a[1], a[2]);
            case 4: return x.load(a[0], a[1], a[2], a[3] != 0);
            case 5: return x.clear(a[0] != 0);
            case 6: return x.near(a[0]);
            case 7: return x.corner(a[0], a[1], a[2], a[3], a[4] != 0);
            case 8: return x.votes(a[0], a[1]);
            case 9: return x.match(a[0]);
            case 10: return x.matched();
            case 11: return x.table(a[0]);
            case 12: return x.place(a[0], a[1], a[2] != 0, a[3] != 0);
            case 13: return x.station(a[0], a[1], a[2], a[3]);
            case 14: return x.tell(a[0]);
            case 15: return x.sight(a[0], a[1], a[2]);
            case 16: return x.drop(a[0]);
            case 17: return x.about(a[0], a[1], a[2]);
            case 18: return x.as(a[0], a[1], a[2]);
            case 19: return x.point(a[0], a[1], a[2], a[3] != 0, a[4], a[5] != 0);
            case 20: return x.fall(a[0], a[1], a[2], a[3]);
            case 21: return x.angle(a[0], a[1], a[2], a[3] != 0);
            case 22: return x.best(a[0]);
            case 23: return x.land(a[0], a[1], a[2], a[3] != 0, a[4] != 0);
            case 24: return x.wind(a[0], a[1], a[2]);
            case 25: return x.drift(a[0], a[1], a[2], a[3] != 0, a[4] != 0);
            case 26: return x.radiant(a[0], a[1], a[2]);
            case 27: return x.shower(a[0], a[1]);
            case 28: return x.check();
            case 29: return x.count(a[0]);
            default: return x.found(a[0]);
        }
    }

    /** Arguments: most within their bounds, some at an edge, few anywhere. */
    static final class Chance {
        final Random random;
        final int reach;
        final int sloppy;

        Chance(long seed) {
            random = new Random(seed);
            reach = new int[] {1, 2, 4, 9}[random.nextInt(4)];
            sloppy = new int[] {3, 12, 60, 400}[random.nextInt(4)];
        }

        int pick(int from, int to) {
            if (random.nextInt(sloppy) == 0) {
                int[] strange = {from - 1, to + 1, from, to, Integer.MIN_VALUE, Integer.MAX_VALUE, random.nextInt()};
                return strange[random.nextInt(strange.length)];
            }
            return from + random.nextInt(to - from + 1);
        }

        int side() {
            return random.nextInt(2);
        }
    }

    static final class Run {
        final Chance by;
        final long seed;
        final FallingLight light = new FallingLight();
        final Model model = new Model();
        final List<String> told = new ArrayList<>();
        final long[][] answers;
        boolean ok = true;

        Run(long seed, long[][] answers) {
            this.seed = seed;
            this.answers = answers;
            by = new Chance(seed);
        }

        void call(int op, int... a) {
            if (!ok || told.size() >= CALLS) {
                return;
            }
            long due = model.call(op, a);
            long got = real(light, op, a);
            told.add(NAMES[op] + Arrays.toString(a) + " " + got);
            int k = due < -1000000000000000000L ? (int) (-1000000000000000000L - due) : 0;
            answers[op][k]++;
            if (due != got) {
                ok = false;
                System.out.println("seed " + seed + ", call " + told.size() + ", due is " + due);
                System.out.println("  " + String.join("\n  ", told.subList(Math.max(0, told.size() - 40), told.size())));
            }
        }

        /** Stars, and spots that are the stars shrunk, turned by a quarter, shifted and shaken. */
        void plate() {
            call(5, 0);
            call(5, 1);
            int span = new int[] {6, 20, 60, 190}[by.random.nextInt(4)];
            int shake = new int[] {0, 0, 1, 3}[by.random.nextInt(4)];
            int shrink = 1 + by.random.nextInt(3);
            boolean quarter = by.random.nextInt(2) == 0;
            int stars = by.random.nextInt(13);
            int[][] at = new int[stars][];
            for (int k = 0; k < stars; k++) {
                at[k] = new int[] {by.random.nextInt(span), by.random.nextInt(span)};
                call(0, at[k][0], at[k][1]);
            }
            int spots = by.random.nextInt(11);
            for (int k = 0; k < spots; k++) {
                int[] from = stars == 0 ? new int[2] : at[(k * 5 + 3) % stars];
                int u = from[0] / shrink + by.random.nextInt(shake + 1);
                int v = from[1] / shrink + by.random.nextInt(shake + 1);
                call(1, quarter ? 195 - v : u, quarter ? u : v);
            }
            if (by.random.nextInt(3) == 0) {
                call(6, by.pick(0, by.random.nextBoolean() ? 99 : 12));
            }
        }

        void row() {
            int r = by.pick(0, 1);
            int n = by.random.nextInt(4) == 0 ? by.pick(-1, 24) : 24 - by.random.nextInt(6);
            call(2, r, n);
            for (int k = 0; k < n && n <= 24; k++) {
                if (by.random.nextInt(40) > 0) {
                    call(3, r, k, by.pick(0, by.random.nextBoolean() ? 199 : 20) + (by.random.nextInt(50) == 0 ? 65536 : 0));
                }
            }
            call(4, r, by.pick(0, 5), 2 * by.random.nextInt(13), by.side());
            call(4, r, by.pick(0, 24), by.pick(0, 24), by.side());
            call(4, r, 0, Math.max(0, Math.min(n, 24)) / 2 * 2, by.side());
            askStars();
        }

        void sight() {
            int kind = by.pick(0, 2);
            int numbers = kind == 1 ? 9 : 6;
            if (by.random.nextInt(by.sloppy) == 0) {
                numbers = by.random.nextInt(11);
            }
            for (int k = 0; k < numbers; k++) {
                call(14, by.pick(-by.reach, by.reach));
            }
            call(15, by.random.nextInt(3) == 0 ? by.pick(0, 5) : 0, kind, by.pick(0, 3));
        }

        int meteor() {
            return by.random.nextInt(3) > 0 ? 0 : by.pick(0, 5);
        }

        /** Begins anywhere, so that each ask is at times the first one behind a change. */
        void askStars() {
            int first = by.random.nextInt(6);
            for (int k = 0; k < 6; k++) {
                askOfStars((first + k) % 6);
            }
        }

        void askOfStars(int which) {
            switch (which) {
                case 0: call(7, by.pick(0, 9), by.pick(0, 9), by.pick(0, 9), by.pick(0, 3), by.side()); break;
                case 1: call(8, by.pick(0, 9), by.pick(0, 11)); break;
                case 2: call(9, by.pick(0, 9)); break;
                case 3: call(10); break;
                case 4: call(11, by.pick(0, 2)); break;
                default: call(12, by.pick(0, 199), by.pick(0, 199), by.side(), by.side()); break;
            }
        }

        void checkTape() {
            int[] matches = model.matches();
            for (int k = 0; k < by.random.nextInt(11); k++) {
                boolean right = k < matches.length && by.random.nextInt(8) > 0;
                call(14, right ? matches[k] : by.pick(-1, 3));
            }
            call(28);
        }

        void askSights() {
            call(17, meteor(), by.pick(0, 3), by.pick(0, 5));
            call(18, meteor(), by.pick(0, 3), by.pick(0, 2));
            call(19, meteor(), by.pick(0, 3), by.pick(0, 3), by.side(), by.pick(0, 2), by.side());
            call(20, meteor(), by.pick(0, 3), by.pick(0, 3), by.pick(0, 2));
            call(21, meteor(), by.pick(0, 3), by.pick(0, 3), by.side());
            call(22, meteor());
            call(23, meteor(), by.pick(0, 3), by.pick(0, 3), by.side(), by.side());
            call(25, meteor(), by.pick(0, 3), by.pick(0, 3), by.side(), by.side());
            call(26, by.pick(0, 5), by.pick(0, 5), by.pick(0, 2));
            call(27, by.pick(0, 5), by.pick(0, 5));
        }

        void step() {
            switch (by.random.nextInt(14)) {
                case 0: plate(); askStars(); break;
                case 1: row(); break;
                case 2: case 3: sight(); break;
                case 4: call(16, meteor()); break;
                case 5: call(13, by.pick(0, 3), by.pick(-99, 99), by.pick(-99, 99), by.pick(0, 9)); break;
                case 6: call(24, by.pick(0, 9), by.pick(-9, 9), by.pick(-9, 9)); break;
                case 7: askStars(); break;
                case 8: checkTape(); break;
                case 9: call(29, by.pick(0, 8)); call(30, by.pick(1, 5)); break;
                case 10: call(by.side(), by.pick(0, 199), by.pick(0, 199)); break;
                default: askSights(); break;
            }
        }

        boolean go() {
            for (int k = 0; k < by.random.nextInt(12); k++) {
                sight();
            }
            for (int k = 0; ok && k < 2000 && told.size() < CALLS; k++) {
                step();
            }
            return ok;
        }
    }

    public static void main(String[] args) {
        long[][] answers = new long[NAMES.length][6];
        int wrong = 0;
        int runs = args.length > 0 ? Integer.parseInt(args[0]) : RUNS;
        for (int seed = 1; seed <= runs && wrong < 5; seed++) {
            if (!new Run(seed, answers).go()) {
                wrong++;
            }
        }
        if (args.length > 0) {
            for (int op = 0; op < NAMES.length; op++) {
                System.out.println(NAMES[op] + " " + Arrays.toString(answers[op]));
            }
        }
        System.out.println(wrong == 0 ? runs + " runs are as due" : "some runs are not as due");
        if (wrong != 0) {
            System.exit(1);
        }
    }
}
