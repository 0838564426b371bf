/** A field where people shoot with bows. */
public final class ArrowField {
    private static final int NONE = -1;
    private static final int MOST_ARCHERS = 6;
    private static final int MOST_QUIVERS = 6;
    private static final int ARROWS = 12;
    private static final int MOST_SIGHT = 127;
    private static final int MOST_NOCK = 8;
    private static final int LEAST_DISTANCE = 10;
    private static final int MOST_DISTANCE = 90;
    private static final int MOST_WIND = 16;
    private static final int MOST_FACE = 8;
    private static final int BEST_SCORE = 10;

    // The states of an ARROW, in the order in which ofQuiver() asks for them.
    private static final int HERE = 0;
    private static final int STUCK = 1;
    private static final int AWAY = 2;
    private static final int BROKEN = 3;

    // The slowest ARROW flies to the greatest DISTANCE in fewer than 150 TICKS.
    private static final int MOST_TICKS = 10000;

    private static final int ARROWS_OF_A_SET = 4;
    private static final int ENOUGH_POINTS = 4;

    private static final int LAST_OF_ARCHER = 10;
    private static final int LAST_OF_QUIVER = 6;
    private static final int LAST_OF_MANY = 11;
    private static final int LAST_OF_MATCH = 7;

    private final Archer[] archers = new Archer[MOST_ARCHERS];
    private final Quiver[] quivers = new Quiver[MOST_QUIVERS];
    private int archerCount;
    private int quiverCount;

    private int distanceNow = 18;
    private int windNow;
    private int faceNow = 4;
    private boolean closed;

    private int drawn;
    private int shots;
    private int splits;
    private int refused;

    private final Match current = new Match();
    private int matchesBegun;
    private int latestWinner = NONE;

    // The one flight that every call reckons with, so that asking makes no objects.
    private final Flight flight = new Flight();

    public ArrowField() {
        for (int i = 0; i < MOST_ARCHERS; i++) {
            archers[i] = new Archer();
        }
        for (int i = 0; i < MOST_QUIVERS; i++) {
            quivers[i] = new Quiver();
        }
    }

    // ---- archers and quivers

    public int archer(int draw, int steady) throws IllegalArgumentException, IllegalStateException {
        needBetween(draw, 20, 60);
        needBetween(steady, 0, 9);
        if (archerCount >= MOST_ARCHERS) {
            throw new IllegalStateException("there are 6 archers");
        }
        archers[archerCount].draw = draw;
        archers[archerCount].steady = steady;
        archerCount++;
        return archerCount - 1;
    }

    public int quiver(int mass, int spine) throws IllegalArgumentException, IllegalStateException {
        needBetween(mass, 200, 600);
        needBetween(spine, 300, 1100);
        if (quiverCount >= MOST_QUIVERS) {
            throw new IllegalStateException("there are 6 quivers");
        }
        quivers[quiverCount].mass = mass;
        quivers[quiverCount].spine = spine;
        quiverCount++;
        return quiverCount - 1;
    }

    public int give(int archer, int quiver) throws IndexOutOfBoundsException, IllegalStateException {
        Archer taker = archerNumbered(archer);
        needQuiver(quiver);
        if (current.on) {
            throw new IllegalStateException("a match is on");
        }
        int before = holderOf(quiver);
        if (before != NONE) {
            archers[before].quiver = NONE;
        }
        taker.quiver = quiver;
        return before;
    }

    public int tune(int archer, int sight, int nock) throws IndexOutOfBoundsException, IllegalArgumentException {
        Archer tuner = archerNumbered(archer);
        needBetween(sight, 0, MOST_SIGHT);
        needBetween(nock, -MOST_NOCK, MOST_NOCK);
        int before = tuner.sight;
        tuner.sight = sight;
        tuner.nock = nock;
        return before;
    }

    public double string(int archer) throws IndexOutOfBoundsException {
        Archer stringer = archerNumbered(archer);
        double before = (double) stringer.creep;
        stringer.creep = 0f;
        return before;
    }

    public int field(int distance, int wind, int face) throws IllegalArgumentException, IllegalStateException {
        needBetween(distance, LEAST_DISTANCE, MOST_DISTANCE);
        needBetween(wind, -MOST_WIND, MOST_WIND);
        needBetween(face, 1, MOST_FACE);
        if (stuckArrows() > 0) {
            throw new IllegalStateException("an arrow is stuck");
        }
        int before = distanceNow;
        distanceNow = distance;
        windNow = wind;
        faceNow = face;
        return before;
    }

    public int wind(int wind) throws IllegalArgumentException {
        needBetween(wind, -MOST_WIND, MOST_WIND);
        int before = windNow;
        windNow = wind;
        return before;
    }

    // ---- shooting

    public int shoot(int archer, int arrow) throws IndexOutOfBoundsException, IllegalStateException {
        Archer shooter = archerNumbered(archer);
        needArrow(arrow);
        if (closed) {
            throw new IllegalStateException("the field is closed");
        }
        Quiver quiver = quiverOf(shooter);
        if (quiver.states[arrow] != HERE) {
            throw new IllegalStateException("the arrow is not here");
        }
        if (current.on && current.turn() != archer) {
            throw new IllegalStateException("a match is on, and it is another one's turn");
        }
        flight.fly(shooter, quiver, shooter.sight, distanceNow, windNow);
        drawn = (13 * drawn + 7) % 64;
        flight.shake(drawn, shooter.steady, distanceNow);
        splitWhatIsHit();
        int score = flight.worth(faceNow);
        quiver.land(arrow, flight, score);
        shooter.count(score);
        shots++;
        if (current.on) {
            countForMatch(score);
        }
        return score;
    }

    public int pull() {
        int stuck = stuckArrows();
        for (int i = 0; i < quiverCount; i++) {
            quivers[i].bringBack(STUCK);
            quivers[i].bringBack(AWAY);
        }
        for (int i = 0; i < archerCount; i++) {
            archers[i].forgetEnd();
        }
        return stuck;
    }

    public int mend(int quiver) throws IndexOutOfBoundsException {
        needQuiver(quiver);
        return quivers[quiver].bringBack(BROKEN);
    }

    public int match(int one, int other)
            throws IndexOutOfBoundsException, IllegalArgumentException, IllegalStateException {
        Archer first = archerNumbered(one);
        Archer second = archerNumbered(other);
        if (one == other) {
            throw new IllegalArgumentException("nobody shoots a match alone");
        }
        if (current.on) {
            throw new IllegalStateException("a match is on");
        }
        if (first.quiver == NONE || second.quiver == NONE) {
            throw new IllegalStateException("an archer has no quiver");
        }
        current.begin(one, other);
        matchesBegun++;
        return matchesBegun;
    }

    public int breakOff() throws IllegalStateException {
        if (!current.on) {
            throw new IllegalStateException("no match is on");
        }
        current.on = false;
        return current.pointsOfOne * 10 + current.pointsOfOther;
    }

    public boolean close(boolean is) {
        boolean before = closed;
        closed = is;
        return before;
    }

    public int horn() {
        refused++;
        return refused;
    }

    // ---- what is asked

    public int ofArcher(int archer, int what) throws IndexOutOfBoundsException, IllegalArgumentException {
        Archer asked = archerNumbered(archer);
        needBetween(what, 0, LAST_OF_ARCHER);
        switch (what) {
            case 0: return asked.draw;
            case 1: return asked.steady;
            case 2: return asked.sight;
            case 3: return asked.nock;
            case 4: return asked.quiver;
            case 5: return asked.shotsEver;
            case 6: return asked.scoresEver;
            case 7: return asked.matchesWon;
            case 8: return asked.endSum;
            case 9: return asked.endShots;
            default: return asked.endTens;
        }
    }

    public double speed(int archer) throws IndexOutOfBoundsException {
        Archer asked = archerNumbered(archer);
        if (asked.quiver == NONE) {
            return 0.0;
        }
        return asked.speedWith(quivers[asked.quiver]);
    }

    public int ofQuiver(int quiver, int what) throws IndexOutOfBoundsException, IllegalArgumentException {
        needQuiver(quiver);
        needBetween(what, 0, LAST_OF_QUIVER);
        switch (what) {
            case 0: return quivers[quiver].mass;
            case 1: return quivers[quiver].spine;
            case 2: return holderOf(quiver);
            case 3: return quivers[quiver].setOf(HERE);
            case 4: return quivers[quiver].setOf(STUCK);
            case 5: return quivers[quiver].setOf(AWAY);
            default: return quivers[quiver].setOf(BROKEN);
        }
    }

    public double hit(int quiver, int arrow, boolean isV) throws IndexOutOfBoundsException {
        needQuiver(quiver);
        needArrow(arrow);
        return isV ? quivers[quiver].v[arrow] : quivers[quiver].h[arrow];
    }

    public int many(int what) throws IllegalArgumentException {
        needBetween(what, 0, LAST_OF_MANY);
        switch (what) {
            case 0: return archerCount;
            case 1: return quiverCount;
            case 2: return distanceNow;
            case 3: return windNow;
            case 4: return faceNow;
            case 5: return stuckArrows();
            case 6: return shots;
            case 7: return splits;
            case 8: return drawn;
            case 9: return matchesBegun;
            case 10: return closed ? 1 : 0;
            default: return refused;
        }
    }

    public int ofMatch(int what) throws IllegalArgumentException {
        needBetween(what, 0, LAST_OF_MATCH);
        if (!current.on) {
            return NONE;
        }
        switch (what) {
            case 0: return current.one;
            case 1: return current.other;
            case 2: return current.pointsOfOne;
            case 3: return current.pointsOfOther;
            case 4: return current.sumOfOne;
            case 5: return current.sumOfOther;
            case 6: return current.turn();
            default: return current.byLastArrows ? 1 : 0;
        }
    }

    public int winner() {
        return latestWinner;
    }

    // ---- what would be (nothing is changed; without SHAKE)

    public double wouldHit(int archer, int sight, boolean isV)
            throws IndexOutOfBoundsException, IllegalArgumentException, IllegalStateException {
        Archer asked = archerNumbered(archer);
        needBetween(sight, 0, MOST_SIGHT);
        flight.fly(asked, quiverOf(asked), sight, distanceNow, windNow);
        return isV ? flight.v : flight.h;
    }

    public int mark(int archer) throws IndexOutOfBoundsException, IllegalStateException {
        Archer asked = archerNumbered(archer);
        Quiver quiver = quiverOf(asked);
        int nearest = NONE;
        double nearestBy = 0.0;
        for (int sight = 0; sight <= MOST_SIGHT; sight++) {
            flight.fly(asked, quiver, sight, distanceNow, windNow);
            double by = size(flight.v);
            if (nearest == NONE || by < nearestBy) {
                nearest = sight;
                nearestBy = by;
            }
        }
        return nearest;
    }

    public int best(int archer) throws IndexOutOfBoundsException {
        Archer asked = archerNumbered(archer);
        int nearest = NONE;
        double nearestBy = 0.0;
        for (int i = 0; i < quiverCount; i++) {
            int holder = holderOf(i);
            if (holder == NONE || holder == archer) {
                flight.fly(asked, quivers[i], asked.sight, distanceNow, windNow);
                double by = size(flight.h);
                if (nearest == NONE || by < nearestBy) {
                    nearest = i;
                    nearestBy = by;
                }
            }
        }
        return nearest;
    }

    public int reach(int archer) throws IndexOutOfBoundsException, IllegalStateException {
        Archer asked = archerNumbered(archer);
        Quiver quiver = quiverOf(asked);
        for (int distance = MOST_DISTANCE; distance >= LEAST_DISTANCE; distance--) {
            flight.fly(asked, quiver, MOST_SIGHT, distance, windNow);
            if (flight.v >= 0.0) {
                return distance;
            }
        }
        return NONE;
    }

    public int wouldScore(int archer) throws IndexOutOfBoundsException, IllegalStateException {
        Archer asked = archerNumbered(archer);
        flight.fly(asked, quiverOf(asked), asked.sight, distanceNow, windNow);
        return flight.worth(faceNow);
    }

    public long digest() {
        long d = 58318;
        for (int what = 0; what <= LAST_OF_MANY; what++) {
            d = d * 31 + many(what);
        }
        for (int what = 0; what <= LAST_OF_MATCH; what++) {
            d = d * 31 + ofMatch(what);
        }
        d = d * 31 + winner();
        for (int i = 0; i < archerCount; i++) {
            d = withArcher(d, i);
        }
        for (int i = 0; i < quiverCount; i++) {
            d = withQuiver(d, i);
        }
        return d;
    }

    // ---- what the calls share

    private long withArcher(long digest, int archer) {
        long d = digest;
        for (int what = 0; what <= LAST_OF_ARCHER; what++) {
            d = d * 31 + ofArcher(archer, what);
        }
        d = d * 31 + (long) (1024 * speed(archer));
        return d * 31 + best(archer);
    }

    private long withQuiver(long digest, int quiver) {
        long d = digest;
        for (int what = 0; what <= LAST_OF_QUIVER; what++) {
            d = d * 31 + ofQuiver(quiver, what);
        }
        for (int arrow = 0; arrow < ARROWS; arrow++) {
            d = d * 31 + (long) (4096 * hit(quiver, arrow, false));
            d = d * 31 + (long) (4096 * hit(quiver, arrow, true));
        }
        return d;
    }

    private static void needBetween(int value, int least, int most) {
        if (value < least || value > most) {
            throw new IllegalArgumentException("a number is out of its range");
        }
    }

    private Archer archerNumbered(int archer) {
        if (archer < 0 || archer >= archerCount) {
            throw new IndexOutOfBoundsException("there is no such archer");
        }
        return archers[archer];
    }

    private void needQuiver(int quiver) {
        if (quiver < 0 || quiver >= quiverCount) {
            throw new IndexOutOfBoundsException("there is no such quiver");
        }
    }

    private static void needArrow(int arrow) {
        if (arrow < 0 || arrow >= ARROWS) {
            throw new IndexOutOfBoundsException("there is no such arrow");
        }
    }

    private Quiver quiverOf(Archer archer) {
        if (archer.quiver == NONE) {
            throw new IllegalStateException("the archer has no quiver");
        }
        return quivers[archer.quiver];
    }

    private int holderOf(int quiver) {
        for (int i = 0; i < archerCount; i++) {
            if (archers[i].quiver == quiver) {
                return i;
            }
        }
        return NONE;
    }

    private int stuckArrows() {
        int stuck = 0;
        for (int i = 0; i < quiverCount; i++) {
            stuck += Integer.bitCount(quivers[i].setOf(STUCK));
        }
        return stuck;
    }

    private void splitWhatIsHit() {
        for (int i = 0; i < quiverCount; i++) {
            int arrow = quivers[i].firstHitBy(flight);
            if (arrow != NONE) {
                quivers[i].states[arrow] = BROKEN;
                splits++;
                return;
            }
        }
    }

    private void countForMatch(int score) {
        int won = current.count(score, flight.farness());
        if (won != NONE) {
            current.on = false;
            latestWinner = won;
            archers[won].matchesWon++;
        }
    }

    private static double size(double number) {
        return number < 0.0 ? -number : number;
    }

    private static final class Archer {
        int draw;
        int steady;
        int sight;
        int nock;
        float creep;
        int quiver = NONE;
        int shotsEver;
        int scoresEver;
        int matchesWon;
        int endSum;
        int endShots;
        int endTens;

        double speedWith(Quiver arrows) {
            return draw * 600.0 / (arrows.mass + 200.0) * (1.0 - (double) creep);
        }

        void count(int score) {
            shotsEver++;
            scoresEver += score;
            endShots++;
            endSum += score;
            if (score == BEST_SCORE) {
                endTens++;
            }
            float crept = creep + 0.00390625f;
            creep = crept > 0.125f ? 0.125f : crept;
        }

        void forgetEnd() {
            endSum = 0;
            endShots = 0;
            endTens = 0;
        }
    }

    private static final class Quiver {
        int mass;
        int spine;
        final int[] states = new int[ARROWS];
        final double[] h = new double[ARROWS];
        final double[] v = new double[ARROWS];

        int setOf(int state) {
            int set = 0;
            for (int arrow = 0; arrow < ARROWS; arrow++) {
                if (states[arrow] == state) {
                    set |= 1 << arrow;
                }
            }
            return set;
        }

        /** Makes all that are in a state HERE, and answers how many these were. */
        int bringBack(int state) {
            int brought = 0;
            for (int arrow = 0; arrow < ARROWS; arrow++) {
                if (states[arrow] == state) {
                    states[arrow] = HERE;
                    brought++;
                }
            }
            return brought;
        }

        int firstHitBy(Flight flight) {
            for (int arrow = 0; arrow < ARROWS; arrow++) {
                if (states[arrow] == STUCK && size(flight.h - h[arrow]) < 0.015625
                        && size(flight.v - v[arrow]) < 0.015625) {
                    return arrow;
                }
            }
            return NONE;
        }

        void land(int arrow, Flight flight, int score) {
            h[arrow] = flight.h;
            v[arrow] = flight.v;
            states[arrow] = score == 0 ? AWAY : STUCK;
        }
    }

    private static final class Flight {
        double h;
        double v;

        void fly(Archer archer, Quiver arrows, int sight, int distance, int wind) {
            double forward = archer.speedWith(arrows);
            double up = forward * sight / 512.0 + archer.nock / 8.0;
            double aside = (arrows.spine - (1300 - 14 * archer.draw)) / 256.0;
            double x = 0.0;
            h = 0.0;
            v = 0.0;
            for (int tick = 0; tick < MOST_TICKS && x < distance; tick++) {
                x += forward / 16.0;
                v += up / 16.0;
                h += aside / 16.0;
                forward -= forward / 256.0;
                up -= 0.625;
                aside += wind / 64.0;
            }
        }

        void shake(int drawn, int steady, int distance) {
            h += (drawn % 8 - 3.5) * (9 - steady) * distance / 4096.0;
            v += (drawn / 8 - 3.5) * (9 - steady) * distance / 4096.0;
        }

        double farness() {
            return h * h + v * v;
        }

        /** The SCORE where it hits now. */
        int worth(int face) {
            double far = farness();
            for (int score = BEST_SCORE; score >= 1; score--) {
                double radius = face * (11 - score) / 64.0 + 0.0078125;
                if (far <= radius * radius) {
                    return score;
                }
            }
            return 0;
        }
    }

    private static final class Match {
        boolean on;
        int one;
        int other;
        int pointsOfOne;
        int pointsOfOther;
        int sumOfOne;
        int sumOfOther;
        int shotsOfSet;
        boolean byLastArrows;
        double lastOfOne;

        void begin(int first, int second) {
            on = true;
            one = first;
            other = second;
            pointsOfOne = 0;
            pointsOfOther = 0;
            byLastArrows = false;
            beginSet();
        }

        int turn() {
            return isTurnOfOne() ? one : other;
        }

        /** Counts a SHOT of the one whose turn it is, and answers who wins by it, or NONE. */
        int count(int score, double farness) {
            if (byLastArrows) {
                return countLastArrow(farness);
            }
            if (isTurnOfOne()) {
                sumOfOne += score;
            } else {
                sumOfOther += score;
            }
            shotsOfSet++;
            return shotsOfSet < ARROWS_OF_A_SET ? NONE : endSet();
        }

        private boolean isTurnOfOne() {
            return shotsOfSet % 2 == 0;
        }

        private void beginSet() {
            sumOfOne = 0;
            sumOfOther = 0;
            shotsOfSet = 0;
        }

        private int endSet() {
            pointsOfOne += pointsFor(sumOfOne, sumOfOther);
            pointsOfOther += pointsFor(sumOfOther, sumOfOne);
            beginSet();
            boolean oneHasEnough = pointsOfOne >= ENOUGH_POINTS;
            boolean otherHasEnough = pointsOfOther >= ENOUGH_POINTS;
            byLastArrows = oneHasEnough && otherHasEnough;
            if (oneHasEnough == otherHasEnough) {
                return NONE;
            }
            return oneHasEnough ? one : other;
        }

        private static int pointsFor(int sum, int otherSum) {
            if (sum == otherSum) {
                return 1;
            }
            return sum > otherSum ? 2 : 0;
        }

        private int countLastArrow(double farness) {
            if (isTurnOfOne()) {
                lastOfOne = farness;
                shotsOfSet++;
                return NONE;
            }
            shotsOfSet = 0;
            if (farness == lastOfOne) {
                return NONE;
            }
            return lastOfOne < farness ? one : other;
        }
    }
}
