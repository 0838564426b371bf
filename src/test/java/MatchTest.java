/** Promises 12, 13, 21 and 22: match, breakOff, ofMatch, winner. */
public final class MatchTest {
    private static final int GOOD_SIGHT = 5;
    private static final int WORSE_SIGHT = 60;

    public static void main(String[] args) {
        matchRefuses();
        turns();
        winInTwoSets();
        otherWins();
        winByFourToTwo();
        winByFiveToThree();
        lastArrows();
        lastArrowsOfOther();
        lastArrowsOfZero();
        pullDoesNotTouchIt();
        breakOff();
        winnerStays();
        Check.end();
    }

    /** Two who worth 10 or 0 by their SIGHTS, and a third one. */
    private static ArrowField three() {
        ArrowField x = Fields.slow(3, 8);
        x.tune(0, GOOD_SIGHT, 0);
        x.tune(1, GOOD_SIGHT, 0);
        return x;
    }

    private static void shootSet(ArrowField x, int one, int other, int sightOfOne, int sightOfOther) {
        x.tune(one, sightOfOne, 0);
        x.tune(other, sightOfOther, 0);
        for (int pair = 0; pair < 2; pair++) {
            x.shoot(one, pair);
            x.shoot(other, pair);
        }
        fetchAll(x);
    }

    private static void fetchAll(ArrowField x) {
        x.pull();
        x.mend(0);
        x.mend(1);
        x.mend(2);
    }

    private static void dueMatch(String when, ArrowField x, int... due) {
        for (int what = 0; what < due.length; what++) {
            Check.due("ofMatch(" + what + ") " + when, due[what], x.ofMatch(what));
        }
    }

    private static void dueNoMatch(String when, ArrowField x) {
        dueMatch(when, x, -1, -1, -1, -1, -1, -1, -1, -1);
    }

    private static void matchRefuses() {
        ArrowField x = three();
        x.archer(40, 9);
        Check.dueIndex("match(4, 0)", x, () -> x.match(4, 0));
        Check.dueIndex("match(0, 4)", x, () -> x.match(0, 4));
        Check.dueIndex("match(-1, 0)", x, () -> x.match(-1, 0));
        Check.dueIndex("match(0, -1)", x, () -> x.match(0, -1));
        Check.dueIndex("match(4, 4)", x, () -> x.match(4, 4));
        Check.dueArgument("match(0, 0)", x, () -> x.match(0, 0));
        Check.dueArgument("match(3, 3) without a quiver", x, () -> x.match(3, 3));
        Check.dueState("match(3, 0)", x, () -> x.match(3, 0));
        Check.dueState("match(0, 3)", x, () -> x.match(0, 3));
        Check.dueArgument("ofMatch(-1)", x, () -> x.ofMatch(-1));
        Check.dueArgument("ofMatch(8)", x, () -> x.ofMatch(8));
        dueNoMatch("before", x);
        Check.due("match(2, 0)", 1, x.match(2, 0));
        Check.due("many(9)", 1, x.many(9));
        dueMatch("as it began", x, 2, 0, 0, 0, 0, 0, 2, 0);
        Check.dueState("match(0, 1) in a match", x, () -> x.match(0, 1));
        Check.dueArgument("match(1, 1) in a match", x, () -> x.match(1, 1));
        Check.dueIndex("match(0, 4) in a match", x, () -> x.match(0, 4));
        Check.dueArgument("ofMatch(8) in a match", x, () -> x.ofMatch(8));
        Check.dueArgument("ofMatch(-1) in a match", x, () -> x.ofMatch(-1));
    }

    private static void turns() {
        ArrowField x = three();
        x.match(1, 0);
        Check.dueState("shoot(0, 0) out of turn", x, () -> x.shoot(0, 0));
        Check.dueState("shoot(2, 0) of nobody in the match", x, () -> x.shoot(2, 0));
        Check.due("shoot(1, 0)", 10, x.shoot(1, 0));
        dueMatch("behind 1 shot", x, 1, 0, 0, 0, 10, 0, 0, 0);
        Check.dueState("shoot(1, 1) out of turn", x, () -> x.shoot(1, 1));
        Check.dueState("shoot(2, 0)", x, () -> x.shoot(2, 0));
        x.tune(0, 29, 0);
        Check.due("shoot(0, 0)", 6, x.shoot(0, 0));
        dueMatch("behind 2 shots", x, 1, 0, 0, 0, 10, 6, 1, 0);
        Check.dueState("shoot(1, 0) that is not here", x, () -> x.shoot(1, 0));
        x.shoot(1, 1);
        dueMatch("behind 3 shots", x, 1, 0, 0, 0, 20, 6, 0, 0);
        x.shoot(0, 1);
        dueMatch("behind a set", x, 1, 0, 2, 0, 0, 0, 1, 0);
    }

    private static void winInTwoSets() {
        ArrowField x = three();
        x.match(0, 1);
        shootSet(x, 0, 1, GOOD_SIGHT, WORSE_SIGHT);
        dueMatch("behind a set", x, 0, 1, 2, 0, 0, 0, 0, 0);
        Check.due("winner() yet", -1, x.winner());
        shootSet(x, 0, 1, GOOD_SIGHT, WORSE_SIGHT);
        dueNoMatch("behind two sets", x);
        Check.due("winner()", 0, x.winner());
        Check.due("matches won of 0", 1, x.ofArcher(0, 7));
        Check.due("matches won of 1", 0, x.ofArcher(1, 7));
        Check.dueState("breakOff() behind a win", x, () -> x.breakOff());
        Check.due("anybody shoots", 10, x.shoot(0, 0));
        x.shoot(2, 0);
        Check.due("match(0, 1)", 2, x.match(0, 1));
        dueMatch("of the second match", x, 0, 1, 0, 0, 0, 0, 0, 0);
    }

    private static void otherWins() {
        ArrowField x = three();
        x.match(2, 0);
        shootSet(x, 2, 0, WORSE_SIGHT, GOOD_SIGHT);
        dueMatch("behind a set", x, 2, 0, 0, 2, 0, 0, 2, 0);
        shootSet(x, 2, 0, GOOD_SIGHT, GOOD_SIGHT);
        dueMatch("behind two sets", x, 2, 0, 1, 3, 0, 0, 2, 0);
        shootSet(x, 2, 0, GOOD_SIGHT, GOOD_SIGHT);
        dueNoMatch("by four to two", x);
        Check.due("winner()", 0, x.winner());
        Check.due("matches won", 1, x.ofArcher(0, 7));
    }

    private static void winByFourToTwo() {
        ArrowField x = three();
        x.match(0, 1);
        shootSet(x, 0, 1, GOOD_SIGHT, WORSE_SIGHT);
        shootSet(x, 0, 1, WORSE_SIGHT, GOOD_SIGHT);
        dueMatch("behind two sets", x, 0, 1, 2, 2, 0, 0, 0, 0);
        shootSet(x, 0, 1, GOOD_SIGHT, WORSE_SIGHT);
        dueNoMatch("behind three sets", x);
        Check.due("winner()", 0, x.winner());
    }

    private static void winByFiveToThree() {
        ArrowField x = three();
        x.match(0, 1);
        for (int set = 0; set < 3; set++) {
            shootSet(x, 0, 1, GOOD_SIGHT, GOOD_SIGHT);
        }
        dueMatch("behind three sets", x, 0, 1, 3, 3, 0, 0, 0, 0);
        shootSet(x, 0, 1, WORSE_SIGHT, GOOD_SIGHT);
        dueNoMatch("behind four sets", x);
        Check.due("winner()", 1, x.winner());
        Check.due("matches won of 0", 0, x.ofArcher(0, 7));
        Check.due("matches won of 1", 1, x.ofArcher(1, 7));
    }

    private static ArrowField withFourEach() {
        ArrowField x = three();
        x.match(0, 1);
        for (int set = 0; set < 4; set++) {
            shootSet(x, 0, 1, GOOD_SIGHT, GOOD_SIGHT);
        }
        dueMatch("with four each", x, 0, 1, 4, 4, 0, 0, 0, 1);
        x.string(0);
        x.string(1);
        return x;
    }

    private static void lastArrows() {
        ArrowField x = withFourEach();
        Check.dueState("shoot(1, 0) out of turn", x, () -> x.shoot(1, 0));
        x.shoot(0, 0);
        dueMatch("behind a last arrow", x, 0, 1, 4, 4, 0, 0, 1, 1);
        Check.dueState("shoot(0, 1) out of turn", x, () -> x.shoot(0, 1));
        x.shoot(1, 0);
        dueMatch("behind two of the same", x, 0, 1, 4, 4, 0, 0, 0, 1);
        x.string(0);
        x.string(1);
        x.tune(0, 6, 0);
        x.tune(1, 4, 0);
        x.shoot(0, 1);
        x.shoot(1, 1);
        dueMatch("as far above as below", x, 0, 1, 4, 4, 0, 0, 0, 1);
        x.tune(0, GOOD_SIGHT, 0);
        x.tune(1, 7, 0);
        Check.due("10 of the nearer one", 10, x.shoot(0, 2));
        Check.due("10 of the farther one", 10, x.shoot(1, 2));
        dueNoMatch("as it is won", x);
        Check.due("winner()", 0, x.winner());
        Check.due("matches won", 1, x.ofArcher(0, 7));
    }

    private static void lastArrowsOfOther() {
        ArrowField x = withFourEach();
        x.tune(0, 2, 0);
        x.shoot(0, 0);
        x.pull();
        dueMatch("behind a pull", x, 0, 1, 4, 4, 0, 0, 1, 1);
        x.shoot(1, 0);
        dueNoMatch("as it is won", x);
        Check.due("winner()", 1, x.winner());
    }

    /** The nearer one wins even if neither hits the face. */
    private static void lastArrowsOfZero() {
        ArrowField x = withFourEach();
        x.tune(0, 100, 0);
        x.tune(1, 99, 0);
        Check.due("0 of the farther one", 0, x.shoot(0, 0));
        Check.due("0 of the nearer one", 0, x.shoot(1, 0));
        Check.due("winner()", 1, x.winner());
    }

    private static void pullDoesNotTouchIt() {
        ArrowField x = three();
        x.match(0, 1);
        x.shoot(0, 0);
        x.pull();
        dueMatch("behind a pull", x, 0, 1, 0, 0, 10, 0, 1, 0);
        x.shoot(1, 0);
        x.shoot(0, 0);
        x.tune(1, WORSE_SIGHT, 0);
        x.shoot(1, 1);
        dueMatch("behind a set with a pull", x, 0, 1, 2, 0, 0, 0, 0, 0);
    }

    private static void breakOff() {
        ArrowField x = three();
        Check.dueState("breakOff() of none", x, () -> x.breakOff());
        x.match(0, 1);
        Check.due("breakOff() at once", 0, x.breakOff());
        Check.dueState("breakOff() again", x, () -> x.breakOff());
        x.match(1, 0);
        shootSet(x, 1, 0, GOOD_SIGHT, WORSE_SIGHT);
        shootSet(x, 1, 0, GOOD_SIGHT, GOOD_SIGHT);
        x.shoot(1, 0);
        Check.due("breakOff()", 31, x.breakOff());
        dueNoMatch("broken off", x);
        Check.due("winner()", -1, x.winner());
        Check.due("many(9)", 2, x.many(9));
        x.shoot(1, 1);
        Check.due("match(0, 1)", 3, x.match(0, 1));
        dueMatch("of the third match", x, 0, 1, 0, 0, 0, 0, 0, 0);
        x.breakOff();
        ArrowField y = withFourEach();
        y.shoot(0, 0);
        Check.due("breakOff() by last arrows", 44, y.breakOff());
        y.match(0, 1);
        dueMatch("behind broken off last arrows", y, 0, 1, 0, 0, 0, 0, 0, 0);
    }

    private static void winnerStays() {
        ArrowField x = three();
        x.match(0, 1);
        shootSet(x, 0, 1, GOOD_SIGHT, WORSE_SIGHT);
        shootSet(x, 0, 1, GOOD_SIGHT, WORSE_SIGHT);
        x.match(1, 2);
        Check.due("winner() in the next match", 0, x.winner());
        x.breakOff();
        Check.due("winner() behind one broken off", 0, x.winner());
        x.match(1, 2);
        shootSet(x, 1, 2, WORSE_SIGHT, GOOD_SIGHT);
        shootSet(x, 1, 2, WORSE_SIGHT, GOOD_SIGHT);
        Check.due("winner() of the latest", 2, x.winner());
    }
}
