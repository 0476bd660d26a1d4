/**
 * A watch for falling lights, in whole numbers and exact fractions.
 * The document ../shared/DOC.md says, promise by promise, what each act answers.
 */
public final class FallingLight {

    private static final long LOW = -1000000000000000000L;
    private static final int BEYOND = 1;
    private static final int NONE = 2;
    private static final int KIND = 3;
    private static final int FULL = 4;
    private static final int SIZE = 5;

    private static final int STAR_LIMIT = 12;
    private static final int SPOT_LIMIT = 10;
    private static final int PLATE_END = 199;
    private static final int ROWS = 2;
    private static final int ROW_LIMIT = 24;
    private static final int NEAR_LIMIT = 99;
    private static final int TAPE_LIMIT = 9;

    private static final int STATIONS = 4;
    private static final int STATION_REACH = 99;
    private static final int STATION_HEIGHT = 9;
    private static final int METEORS = 6;
    private static final int SIGHT_LIMIT = 4;
    private static final int WAY_REACH = 9;

    private static final int PLAIN = 0;
    private static final int LONG = 1;
    private static final int BLURRED = 2;

    private static final int LAYERS = 10;
    private static final int LAYER_HEIGHT = 10;
    private static final int WIND_REACH = 9;

    private final Points starPoints;
    private final Points spotPoints;
    private final Matching matching;
    private final Triangle asked;
    private final Row[] rows;
    private final Tape tape;
    private final Way[] stationPlaces;
    private final Meteor[] meteors;
    private final int[] windX;
    private final int[] windY;
    private final int[] findings;

    public FallingLight() {
        starPoints = new Points(STAR_LIMIT);
        spotPoints = new Points(SPOT_LIMIT);
        matching = new Matching(spotPoints, starPoints);
        asked = new Triangle();
        rows = new Row[ROWS];
        for (int r = 0; r < ROWS; r++) {
            rows[r] = new Row();
        }
        tape = new Tape();
        stationPlaces = new Way[STATIONS];
        for (int s = 0; s < STATIONS; s++) {
            stationPlaces[s] = new Way(0, 0, 0);
        }
        meteors = new Meteor[METEORS];
        for (int m = 0; m < METEORS; m++) {
            meteors[m] = new Meteor();
        }
        windX = new int[LAYERS];
        windY = new int[LAYERS];
        findings = new int[SIZE + 1];
    }

    // ---- stars and spots

    public long star(int x, int y) {
        return addPoint(starPoints, x, y);
    }

    public long spot(int u, int v) {
        return addPoint(spotPoints, u, v);
    }

    private long addPoint(Points points, int x, int y) {
        if (!isOnPlate(x) || !isOnPlate(y)) {
            return finding(BEYOND);
        }
        if (points.size >= points.limit) {
            return finding(FULL);
        }
        matching.fresh = false;
        return points.add(x, y);
    }

    public long row(int r, int n) {
        if (!isRow(r)) {
            return finding(BEYOND);
        }
        if (n < -1) {
            return finding(SIZE);
        }
        if (n > ROW_LIMIT) {
            return finding(BEYOND);
        }
        rows[r].begin(n);
        return n;
    }

    public long put(int r, int i, int v) {
        if (!isRow(r)) {
            return finding(BEYOND);
        }
        Row row = rows[r];
        if (row.isMissing()) {
            return finding(NONE);
        }
        if (i < 0 || i >= row.length) {
            return finding(BEYOND);
        }
        row.places[i] = (short) v;
        return row.places[i];
    }

    public long load(int r, int i, int n, boolean stars) {
        if (!isRow(r)) {
            return finding(BEYOND);
        }
        Row row = rows[r];
        if (row.isMissing()) {
            return finding(NONE);
        }
        if (n < 0 || n % 2 != 0) {
            return finding(SIZE);
        }
        if (!row.holdsPlate(i, n)) {
            return finding(BEYOND);
        }
        Points points = pointsOf(stars);
        if (n / 2 > points.limit) {
            return finding(FULL);
        }
        matching.fresh = false;
        points.size = 0;
        for (int k = 0; k < n; k += 2) {
            points.add(row.places[i + k], row.places[i + k + 1]);
        }
        return points.size;
    }

    public long clear(boolean stars) {
        Points points = pointsOf(stars);
        int gone = points.size;
        points.size = 0;
        matching.fresh = false;
        return gone;
    }

    public long near(int t) {
        if (t < 0 || t > NEAR_LIMIT) {
            return finding(BEYOND);
        }
        int was = matching.nearness;
        matching.nearness = t;
        matching.fresh = false;
        return was;
    }

    public long corner(int a, int b, int c, int k, boolean stars) {
        Points points = pointsOf(stars);
        if (!points.has(a) || !points.has(b) || !points.has(c)) {
            return finding(BEYOND);
        }
        if (a == b || b == c || a == c || k < 0 || k > 3) {
            return finding(BEYOND);
        }
        asked.measure(points, a, b, c);
        if (!asked.good) {
            return finding(NONE);
        }
        return asked.told(k);
    }

    public long votes(int spot, int star) {
        if (!spotPoints.has(spot) || !starPoints.has(star)) {
            return finding(BEYOND);
        }
        matching.renew();
        return matching.ballots[spot][star];
    }

    public long match(int spot) {
        if (!spotPoints.has(spot)) {
            return finding(BEYOND);
        }
        matching.renew();
        int star = matching.partners[spot];
        return star < 0 ? finding(NONE) : star;
    }

    public long matched() {
        matching.renew();
        return matching.partnered();
    }

    public long table(int k) {
        if (k < 0 || k >= 3) {
            return finding(BEYOND);
        }
        matching.renew();
        return matching.hasTable ? matching.base[k] : finding(NONE);
    }

    public long place(int u, int v, boolean y, boolean below) {
        if (!isOnPlate(u) || !isOnPlate(v)) {
            return finding(BEYOND);
        }
        matching.renew();
        if (!matching.hasTable) {
            return finding(NONE);
        }
        return matching.skyOf(u, v, y).side(below);
    }

    // ---- stations and sights

    public long station(int s, int x, int y, int z) {
        if (!isStation(s) || !within(x, STATION_REACH) || !within(y, STATION_REACH)) {
            return finding(BEYOND);
        }
        if (z < 0 || z > STATION_HEIGHT) {
            return finding(BEYOND);
        }
        stationPlaces[s] = new Way(x, y, z);
        return 1;
    }

    public long tell(int v) {
        if (tape.size >= TAPE_LIMIT) {
            return finding(FULL);
        }
        tape.numbers[tape.size] = v;
        tape.size++;
        return tape.size;
    }

    public long sight(int meteor, int kind, int station) {
        if (!isMeteor(meteor) || !isKind(kind) || !isStation(station)) {
            return finding(BEYOND);
        }
        long answer = sightByTape(meteors[meteor], kind, station);
        tape.size = 0;
        return answer;
    }

    private long sightByTape(Meteor meteor, int kind, int station) {
        int ways = kind == LONG ? 3 : 2;
        if (tape.size != 3 * ways) {
            return finding(SIZE);
        }
        for (int k = 0; k < ways; k++) {
            if (!tape.holdsWay(k)) {
                return finding(BEYOND);
            }
        }
        if (meteor.size >= SIGHT_LIMIT) {
            return finding(FULL);
        }
        Way middle = kind == LONG ? tape.wayAt(2) : null;
        return meteor.add(new Sight(kind, station, tape.wayAt(0), tape.wayAt(1), middle));
    }

    public long drop(int meteor) {
        if (!isMeteor(meteor)) {
            return finding(BEYOND);
        }
        Meteor shrunk = meteors[meteor];
        if (shrunk.size == 0) {
            return finding(NONE);
        }
        shrunk.size--;
        return shrunk.size;
    }

    public long about(int meteor, int sight, int what) {
        Sight seen = sightOf(meteor, sight);
        if (seen == null || what < 0 || what > 5) {
            return finding(BEYOND);
        }
        if (what == 0) {
            return seen.kind;
        }
        if (what == 1) {
            return seen.station;
        }
        if (what == 5 && seen.middle == null) {
            return finding(KIND);
        }
        if (seen.plane == null) {
            return finding(NONE);
        }
        return what == 5 ? seen.plane.dot(seen.middle) : seen.plane.along(what - 2);
    }

    public long as(int meteor, int sight, int kind) {
        Sight seen = sightOf(meteor, sight);
        if (seen == null || !isKind(kind)) {
            return finding(BEYOND);
        }
        if (kind != PLAIN && kind != seen.kind) {
            return finding(KIND);
        }
        return seen.station;
    }

    // ---- what is worked out

    public long point(int meteor, int s, int t, boolean end, int axis, boolean below) {
        if (!isPair(meteor, s, t) || !isAxis(axis)) {
            return finding(BEYOND);
        }
        Sight ray = sightOf(meteor, s);
        if (isBlurred(ray)) {
            return finding(KIND);
        }
        Meeting met = meetingOf(ray, sightOf(meteor, t), end);
        if (met == null) {
            return finding(NONE);
        }
        return met.coordinate(axis).side(below);
    }

    public long fall(int meteor, int s, int t, int axis) {
        if (!isPair(meteor, s, t) || !isAxis(axis)) {
            return finding(BEYOND);
        }
        Way fallen = crossing(planeOf(meteor, s), planeOf(meteor, t));
        return fallen == null ? finding(NONE) : fallen.along(axis);
    }

    public long angle(int meteor, int s, int t, boolean below) {
        if (!isPair(meteor, s, t)) {
            return finding(BEYOND);
        }
        Fraction between = angleOf(planeOf(meteor, s), planeOf(meteor, t));
        return between == null ? finding(NONE) : between.side(below);
    }

    public long best(int meteor) {
        if (!isMeteor(meteor)) {
            return finding(BEYOND);
        }
        int size = meteors[meteor].size;
        Fraction least = null;
        long pair = 0;
        for (int s = 0; s < size; s++) {
            for (int t = 0; t < size; t++) {
                Fraction between = rank(meteor, s, t);
                if (between != null && (least == null || between.isLess(least))) {
                    least = between;
                    pair = 10L * s + t;
                }
            }
        }
        return least == null ? finding(NONE) : pair;
    }

    /** The angle of a pair that may be the best one, else null. */
    private Fraction rank(int meteor, int s, int t) {
        if (!isPair(meteor, s, t)) {
            return null;
        }
        Sight ray = sightOf(meteor, s);
        Sight other = sightOf(meteor, t);
        if (isBlurred(ray) || meetingOf(ray, other, false) == null) {
            return null;
        }
        Way first = planeOf(meteor, s);
        Way second = planeOf(meteor, t);
        return crossing(first, second) == null ? null : angleOf(first, second);
    }

    public long land(int meteor, int s, int t, boolean y, boolean below) {
        if (!isPair(meteor, s, t)) {
            return finding(BEYOND);
        }
        Sight ray = sightOf(meteor, s);
        if (isBlurred(ray)) {
            return finding(KIND);
        }
        Meeting begin = meetingOf(ray, sightOf(meteor, t), false);
        Way fallen = crossing(planeOf(meteor, s), planeOf(meteor, t));
        if (begin == null || fallen == null || fallen.z == 0) {
            return finding(NONE);
        }
        return landing(begin, fallen, y ? 1 : 0).side(below);
    }

    private static Fraction landing(Meeting begin, Way fallen, int axis) {
        long above = begin.above.along(axis) * fallen.z - begin.above.z * fallen.along(axis);
        return new Fraction(above, begin.below * fallen.z);
    }

    public long wind(int layer, int x, int y) {
        if (layer < 0 || layer >= LAYERS || !within(x, WIND_REACH) || !within(y, WIND_REACH)) {
            return finding(BEYOND);
        }
        windX[layer] = x;
        windY[layer] = y;
        return 1;
    }

    public long drift(int meteor, int s, int t, boolean y, boolean below) {
        if (!isPair(meteor, s, t)) {
            return finding(BEYOND);
        }
        Sight ray = sightOf(meteor, s);
        if (isBlurred(ray)) {
            return finding(KIND);
        }
        Meeting end = meetingOf(ray, sightOf(meteor, t), true);
        if (end == null) {
            return finding(NONE);
        }
        Fraction height = end.coordinate(2);
        if (height.above < 0 || height.above > height.below * LAYERS * LAYER_HEIGHT) {
            return finding(SIZE);
        }
        return driftFrom(height, y ? windY : windX).side(below);
    }

    private static Fraction driftFrom(Fraction height, int[] winds) {
        long layer = LAYER_HEIGHT * height.below;
        long sum = 0;
        for (int k = 0; k < winds.length; k++) {
            long under = Math.min(layer, Math.max(0L, height.above - k * layer));
            sum += winds[k] * under;
        }
        return new Fraction(sum, height.below);
    }

    public long radiant(int a, int b, int axis) {
        if (!isMeteor(a) || !isMeteor(b) || a == b || !isAxis(axis)) {
            return finding(BEYOND);
        }
        Way source = crossing(meteors[a].firstPlane(), meteors[b].firstPlane());
        return source == null ? finding(NONE) : source.along(axis);
    }

    public long shower(int a, int b) {
        if (!isMeteor(a) || !isMeteor(b) || a == b) {
            return finding(BEYOND);
        }
        Way source = crossing(meteors[a].firstPlane(), meteors[b].firstPlane());
        if (source == null) {
            return finding(NONE);
        }
        long bits = 0;
        for (int m = 0; m < METEORS; m++) {
            if (meteors[m].comesFrom(source)) {
                bits |= 1L << m;
            }
        }
        return bits;
    }

    // ---- what is told

    public long check() {
        int told = tape.size;
        tape.size = 0;
        matching.renew();
        for (int k = 0; k < told && k < spotPoints.size; k++) {
            if (tape.numbers[k] != matching.partners[k]) {
                return 1L + k;
            }
        }
        return told > spotPoints.size ? 99 : 0;
    }

    public long count(int what) {
        if (what < 0 || what >= 3 + METEORS) {
            return finding(BEYOND);
        }
        if (what == 0) {
            return starPoints.size;
        }
        if (what == 1) {
            return spotPoints.size;
        }
        return what == 2 ? tape.size : meteors[what - 3].size;
    }

    public long found(int k) {
        if (k < BEYOND || k > SIZE) {
            return finding(BEYOND);
        }
        return findings[k];
    }

    private long finding(int k) {
        findings[k]++;
        return LOW - k;
    }

    private Points pointsOf(boolean stars) {
        return stars ? starPoints : spotPoints;
    }

    /** A meteor's sight, or null if there is no such meteor or sight. */
    private Sight sightOf(int meteor, int sight) {
        return isMeteor(meteor) ? meteors[meteor].sightAt(sight) : null;
    }

    /** A sight's plane, or null if there is no such sight or it has no plane. */
    private Way planeOf(int meteor, int sight) {
        Sight seen = sightOf(meteor, sight);
        return seen == null ? null : seen.plane;
    }

    private boolean isPair(int meteor, int s, int t) {
        return s != t && sightOf(meteor, s) != null && sightOf(meteor, t) != null;
    }

    /** Where the ray of one sight goes through the plane of another, or null. */
    private Meeting meetingOf(Sight ray, Sight other, boolean end) {
        if (ray == null || other == null || other.plane == null) {
            return null;
        }
        Way from = stationPlaces[ray.station];
        Way along = end ? ray.end : ray.begin;
        long slope = other.plane.dot(along);
        if (slope == 0) {
            return null;
        }
        long gap = other.plane.dot(stationPlaces[other.station].minus(from));
        return new Meeting(from.times(slope).plus(along.times(gap)), slope);
    }

    /** The way that lies in both planes, or null if one is missing or they are alike. */
    private static Way crossing(Way first, Way second) {
        if (first == null || second == null) {
            return null;
        }
        Way both = first.cross(second);
        return both.isZero() ? null : both;
    }

    private static Fraction angleOf(Way first, Way second) {
        if (first == null || second == null) {
            return null;
        }
        long product = first.dot(second);
        return new Fraction(product * product, first.dot(first) * second.dot(second));
    }

    private static boolean isBlurred(Sight sight) {
        return sight != null && sight.kind == BLURRED;
    }

    private static boolean isOnPlate(int v) {
        return v >= 0 && v <= PLATE_END;
    }

    private static boolean isRow(int r) {
        return r >= 0 && r < ROWS;
    }

    private static boolean isStation(int s) {
        return s >= 0 && s < STATIONS;
    }

    private static boolean isMeteor(int m) {
        return m >= 0 && m < METEORS;
    }

    private static boolean isKind(int kind) {
        return kind >= PLAIN && kind <= BLURRED;
    }

    private static boolean isAxis(int axis) {
        return axis >= 0 && axis < 3;
    }

    private static boolean within(int v, int reach) {
        return v >= -reach && v <= reach;
    }

    /** Stars or spots, by numbers. */
    private static final class Points {
        final int limit;
        final int[] x;
        final int[] y;
        int size;

        Points(int limit) {
            this.limit = limit;
            x = new int[limit];
            y = new int[limit];
            size = 0;
        }

        boolean has(int n) {
            return n >= 0 && n < size;
        }

        /** The new point's number, or -1 if there is no room. */
        int add(int px, int py) {
            if (size >= limit) {
                return -1;
            }
            x[size] = px;
            y[size] = py;
            size++;
            return size - 1;
        }

        long squareBetween(int a, int b) {
            long dx = x[b] - x[a];
            long dy = y[b] - y[a];
            return dx * dx + dy * dy;
        }

        /** (b - a) x (c - a): 0 if the three are in a line. */
        long spread(int a, int b, int c) {
            return spreadFrom(a, x[b], y[b], x[c], y[c]);
        }

        long spreadFrom(int a, long bx, long by, long cx, long cy) {
            return (bx - x[a]) * (cy - y[a]) - (by - y[a]) * (cx - x[a]);
        }
    }

    /** A row of shorts; a length of -1 says that it is missing. */
    private static final class Row {
        final short[] places;
        int length;

        Row() {
            places = new short[ROW_LIMIT];
            length = -1;
        }

        boolean isMissing() {
            return length < 0;
        }

        void begin(int n) {
            length = n;
            for (int i = 0; i < places.length; i++) {
                places[i] = -1;
            }
        }

        boolean holdsPlate(int from, int n) {
            // The difference can't overflow where from + n could.
            if (from < 0 || n < 0 || from > length - n) {
                return false;
            }
            for (int k = 0; k < n; k++) {
                if (!isOnPlate(places[from + k])) {
                    return false;
                }
            }
            return true;
        }
    }

    /** The numbers told that wait for a sight or a check. */
    private static final class Tape {
        final int[] numbers;
        int size;

        Tape() {
            numbers = new int[TAPE_LIMIT];
            size = 0;
        }

        /** Asked only of a way that the tape has room for: k is 0 .. 2. */
        boolean holdsWay(int k) {
            boolean some = false;
            for (int i = 3 * k; i < 3 * k + 3; i++) {
                if (!within(numbers[i], WAY_REACH)) {
                    return false;
                }
                some = some || numbers[i] != 0;
            }
            return some;
        }

        Way wayAt(int k) {
            return new Way(numbers[3 * k], numbers[3 * k + 1], numbers[3 * k + 2]);
        }
    }

    /** A triangle, measured anew for other points so that none need be made. */
    private static final class Triangle {
        boolean good;
        int first;
        int second;
        int third;
        long least;
        long mid;
        long most;
        int turn;

        Triangle() {
            good = false;
        }

        void measure(Points points, int a, int b, int c) {
            setCorners(a, points.squareBetween(b, c),
                    b, points.squareBetween(a, c),
                    c, points.squareBetween(a, b));
            long spread = points.spread(first, second, third);
            turn = spread > 0 ? 1 : -1;
            good = spread != 0 && least != mid && mid != most;
        }

        /** Sorts the corners by the squares of the sides over against them. */
        private void setCorners(int a, long overA, int b, long overB, int c, long overC) {
            first = a;
            least = overA;
            second = b;
            mid = overB;
            third = c;
            most = overC;
            if (least > mid) {
                swapLower();
            }
            if (mid > most) {
                swapUpper();
            }
            if (least > mid) {
                swapLower();
            }
        }

        private void swapLower() {
            int corner = first;
            first = second;
            second = corner;
            long square = least;
            least = mid;
            mid = square;
        }

        private void swapUpper() {
            int corner = second;
            second = third;
            third = corner;
            long square = mid;
            mid = most;
            most = square;
        }

        int told(int k) {
            if (k == 0) {
                return first;
            }
            if (k == 1) {
                return second;
            }
            return k == 2 ? third : turn;
        }

        boolean isLike(Triangle other, int nearness) {
            if (turn != other.turn) {
                return false;
            }
            long room = nearness * most * other.most;
            return Math.abs(least * other.most - other.least * most) * 100 <= room
                    && Math.abs(mid * other.most - other.mid * most) * 100 <= room;
        }
    }

    /** The good triangles of some points, in a row that is used again. */
    private static final class Triangles {
        final Triangle[] row;
        int size;

        Triangles(int points) {
            int threes = points * (points - 1) * (points - 2) / 6;
            row = new Triangle[Math.max(0, threes)];
            size = 0;
        }

        void gather(Points points) {
            size = 0;
            for (int a = 0; a < points.size; a++) {
                for (int b = a + 1; b < points.size; b++) {
                    for (int c = b + 1; c < points.size && size < row.length; c++) {
                        keepIfGood(points, a, b, c);
                    }
                }
            }
        }

        private void keepIfGood(Points points, int a, int b, int c) {
            // One that isn't good leaves its place in the row to the next.
            if (row[size] == null) {
                row[size] = new Triangle();
            }
            row[size].measure(points, a, b, c);
            if (row[size].good) {
                size++;
            }
        }
    }

    /** Votes, matches and the table; worked out once for each state of stars, spots and nearness. */
    private static final class Matching {
        final Points spots;
        final Points stars;
        final Triangles spotTriangles;
        final Triangles starTriangles;
        final int[][] ballots;
        final int[] partners;
        final int[] base;
        boolean hasTable;
        boolean fresh;
        int nearness;

        Matching(Points spots, Points stars) {
            this.spots = spots;
            this.stars = stars;
            spotTriangles = new Triangles(SPOT_LIMIT);
            starTriangles = new Triangles(STAR_LIMIT);
            ballots = new int[SPOT_LIMIT][STAR_LIMIT];
            partners = new int[SPOT_LIMIT];
            base = new int[3];
            hasTable = false;
            fresh = false;
            nearness = 5;
        }

        void renew() {
            if (fresh) {
                return;
            }
            spotTriangles.gather(spots);
            starTriangles.gather(stars);
            countBallots();
            for (int spot = 0; spot < spots.size; spot++) {
                partners[spot] = partnerOf(spot);
            }
            hasTable = findBase();
            fresh = true;
        }

        private void countBallots() {
            for (int spot = 0; spot < SPOT_LIMIT; spot++) {
                for (int star = 0; star < STAR_LIMIT; star++) {
                    ballots[spot][star] = 0;
                }
            }
            for (int p = 0; p < spotTriangles.size; p++) {
                castBallots(spotTriangles.row[p]);
            }
        }

        private void castBallots(Triangle ofSpots) {
            for (int q = 0; q < starTriangles.size; q++) {
                Triangle ofStars = starTriangles.row[q];
                if (ofSpots.isLike(ofStars, nearness)) {
                    ballots[ofSpots.first][ofStars.first]++;
                    ballots[ofSpots.second][ofStars.second]++;
                    ballots[ofSpots.third][ofStars.third]++;
                }
            }
        }

        /** The star that a spot is matched with, or -1. */
        private int partnerOf(int spot) {
            int star = -1;
            int most = 1;
            for (int k = 0; k < stars.size; k++) {
                if (ballots[spot][k] > most) {
                    star = k;
                    most = ballots[spot][k];
                }
            }
            return star >= 0 && isAlone(spot, star) ? star : -1;
        }

        /** No other star of the spot, and no other spot of the star, has as many votes. */
        private boolean isAlone(int spot, int star) {
            int most = ballots[spot][star];
            for (int k = 0; k < stars.size; k++) {
                if (k != star && ballots[spot][k] >= most) {
                    return false;
                }
            }
            for (int k = 0; k < spots.size; k++) {
                if (k != spot && ballots[k][star] >= most) {
                    return false;
                }
            }
            return true;
        }

        int partnered() {
            int sum = 0;
            for (int spot = 0; spot < spots.size; spot++) {
                if (partners[spot] >= 0) {
                    sum++;
                }
            }
            return sum;
        }

        private boolean findBase() {
            for (int a = 0; a < spots.size; a++) {
                for (int b = a + 1; b < spots.size; b++) {
                    for (int c = b + 1; c < spots.size; c++) {
                        if (isBase(a, b, c)) {
                            base[0] = a;
                            base[1] = b;
                            base[2] = c;
                            return true;
                        }
                    }
                }
            }
            return false;
        }

        private boolean isBase(int a, int b, int c) {
            return partners[a] >= 0 && partners[b] >= 0 && partners[c] >= 0
                    && spots.spread(a, b, c) != 0;
        }

        /** Asked only if there is a table. */
        Fraction skyOf(int u, int v, boolean y) {
            int a = base[0];
            int b = base[1];
            int c = base[2];
            int[] sky = y ? stars.y : stars.x;
            long origin = sky[partners[a]];
            long whole = spots.spread(a, b, c);
            long partB = spots.spreadFrom(a, u, v, spots.x[c], spots.y[c]);
            long partC = spots.spreadFrom(a, spots.x[b], spots.y[b], u, v);
            long above = origin * whole
                    + (sky[partners[b]] - origin) * partB
                    + (sky[partners[c]] - origin) * partC;
            return new Fraction(above, whole);
        }
    }

    /** Three whole numbers: a way, or the place of a station. */
    private static final class Way {
        final long x;
        final long y;
        final long z;

        Way(long x, long y, long z) {
            this.x = x;
            this.y = y;
            this.z = z;
        }

        boolean isZero() {
            return x == 0 && y == 0 && z == 0;
        }

        long along(int axis) {
            if (axis == 0) {
                return x;
            }
            return axis == 1 ? y : z;
        }

        long dot(Way o) {
            return x * o.x + y * o.y + z * o.z;
        }

        Way cross(Way o) {
            return new Way(y * o.z - z * o.y, z * o.x - x * o.z, x * o.y - y * o.x);
        }

        Way times(long k) {
            return new Way(k * x, k * y, k * z);
        }

        Way plus(Way o) {
            return new Way(x + o.x, y + o.y, z + o.z);
        }

        Way minus(Way o) {
            return new Way(x - o.x, y - o.y, z - o.z);
        }
    }

    /** Where a ray meets a plane: a point whose three coordinates share one number below the line. */
    private static final class Meeting {
        final Way above;
        final long below;

        Meeting(Way above, long below) {
            this.above = above;
            this.below = below;
        }

        Fraction coordinate(int axis) {
            return new Fraction(above.along(axis), below);
        }
    }

    /** A fraction in lowest terms; the one who makes it has seen that below isn't 0. */
    private static final class Fraction {
        final long above;
        final long below;

        Fraction(long above, long below) {
            long shared = Math.max(1L, commonDivisor(Math.abs(above), Math.abs(below)));
            long sign = below < 0 ? -1 : 1;
            this.above = sign * (above / shared);
            this.below = sign * (below / shared);
        }

        long side(boolean lower) {
            return lower ? below : above;
        }

        /** Of angles: above <= below <= 52488 * 52488 there, whose square is within a long. */
        boolean isLess(Fraction o) {
            return above * o.below < o.above * below;
        }

        private static long commonDivisor(long a, long b) {
            long larger = a;
            long smaller = b;
            // Numbers of 63 bits never need more than 92 steps.
            for (int step = 0; step < 100 && smaller != 0; step++) {
                long rest = larger % smaller;
                larger = smaller;
                smaller = rest;
            }
            return larger;
        }
    }

    /** What one station saw of a meteor; a middle way is there of a long one alone. */
    private static final class Sight {
        final int kind;
        final int station;
        final Way begin;
        final Way end;
        final Way middle;
        final Way plane;

        Sight(int kind, int station, Way begin, Way end, Way middle) {
            this.kind = kind;
            this.station = station;
            this.begin = begin;
            this.end = end;
            this.middle = middle;
            this.plane = crossing(begin, end);
        }
    }

    /** A meteor's sights, by numbers. */
    private static final class Meteor {
        final Sight[] sights;
        int size;

        Meteor() {
            sights = new Sight[SIGHT_LIMIT];
            size = 0;
        }

        Sight sightAt(int n) {
            return n >= 0 && n < size ? sights[n] : null;
        }

        /** The new sight's number, or -1 if there is no room. */
        int add(Sight sight) {
            if (size >= SIGHT_LIMIT) {
                return -1;
            }
            sights[size] = sight;
            size++;
            return size - 1;
        }

        /** The plane of the first sight that has one, or null. */
        Way firstPlane() {
            for (int k = 0; k < size; k++) {
                Way plane = planeAt(k);
                if (plane != null) {
                    return plane;
                }
            }
            return null;
        }

        boolean comesFrom(Way source) {
            for (int k = 0; k < size; k++) {
                Way plane = planeAt(k);
                if (plane != null && plane.dot(source) != 0) {
                    return false;
                }
            }
            return firstPlane() != null;
        }

        private Way planeAt(int k) {
            Sight sight = sightAt(k);
            return sight == null ? null : sight.plane;
        }
    }
}
