/** Promises 12, 13, 21 and 22: match, breakOff, ofMatch, winner. */
public final class MatchTest {
    public static void main(String[] args) {
        turns();
        winInTwoSets();
        otherWins();
        winByFourToTwo();
        winByFiveToThree();
        lastArrows();
        lastArrowsOfOther();
        pullDoesNotTouchIt();
        breakOff();
        Check.end();
    }

    private static void turns() {
        ArrowField x = Matches.three();
        x.match(1, 0);
        Check.dueState("shoot(0, 0) out of turn", x, () -> x.shoot(0, 0));
        Check.dueState("shoot(2, 0) of nobody in the match", x, () -> x.shoot(2, 0));
        Check.due("shoot(1, 0)", 10, x.shoot(1, 0));
        Matches.dueMatch("behind 1 shot", x, 1, 0, 0, 0, 10, 0, 0, 0);
        Check.dueState("shoot(1, 1) out of turn", x, () -> x.shoot(1, 1));
        Check.dueState("shoot(2, 0)", x, () -> x.shoot(2, 0));
        x.tune(0, 29, 0);
        Check.due("shoot(0, 0)", 6, x.shoot(0, 0));
        Matches.dueMatch("behind 2 shots", x, 1, 0, 0, 0, 10, 6, 1, 0);
        Check.dueState("shoot(1, 0) that is not here", x, () -> x.shoot(1, 0));
        x.shoot(1, 1);
        Matches.dueMatch("behind 3 shots", x, 1, 0, 0, 0, 20, 6, 0, 0);
        x.shoot(0, 1);
        Matches.dueMatch("behind a set", x, 1, 0, 2, 0, 0, 0, 1, 0);
    }

    private static void winInTwoSets() {
        ArrowField x = Matches.three();
        x.match(0, 1);
        Matches.shootSets(x, 0, 1, "1");
        Matches.dueMatch("behind a set", x, 0, 1, 2, 0, 0, 0, 0, 0);
        Check.due("winner() yet", -1, x.winner());
        Matches.shootSets(x, 0, 1, "1");
        Matches.dueNoMatch("behind two sets", x);
        Check.due("winner()", 0, x.winner());
        Check.due("matches won of 0", 1, x.ofArcher(0, 7));
        Check.due("matches won of 1", 0, x.ofArcher(1, 7));
        Check.dueState("breakOff() behind a win", x, () -> x.breakOff());
        Check.due("anybody shoots", 10, x.shoot(0, 0));
        x.shoot(2, 0);
        Check.due("match(0, 1)", 2, x.match(0, 1));
        Matches.dueMatch("of the second match", x, 0, 1, 0, 0, 0, 0, 0, 0);
    }

    private static void otherWins() {
        ArrowField x = Matches.three();
        x.match(2, 0);
        Matches.shootSets(x, 2, 0, "2");
        Matches.dueMatch("behind a set", x, 2, 0, 0, 2, 0, 0, 2, 0);
        Matches.shootSets(x, 2, 0, "=");
        Matches.dueMatch("behind two sets", x, 2, 0, 1, 3, 0, 0, 2, 0);
        Matches.shootSets(x, 2, 0, "=");
        Matches.dueNoMatch("by four to two", x);
        Check.due("winner()", 0, x.winner());
        Check.due("matches won", 1, x.ofArcher(0, 7));
    }

    private static void winByFourToTwo() {
        ArrowField x = Matches.three();
        x.match(0, 1);
        Matches.shootSets(x, 0, 1, "1");
        Matches.shootSets(x, 0, 1, "2");
        Matches.dueMatch("behind two sets", x, 0, 1, 2, 2, 0, 0, 0, 0);
        Matches.shootSets(x, 0, 1, "1");
        Matches.dueNoMatch("behind three sets", x);
        Check.due("winner()", 0, x.winner());
    }

    private static void winByFiveToThree() {
        ArrowField x = Matches.three();
        x.match(0, 1);
        for (int set = 0; set < 3; set++) {
            Matches.shootSets(x, 0, 1, "=");
        }
        Matches.dueMatch("behind three sets", x, 0, 1, 3, 3, 0, 0, 0, 0);
        Matches.shootSets(x, 0, 1, "2");
        Matches.dueNoMatch("behind four sets", x);
        Check.due("winner()", 1, x.winner());
        Check.due("matches won of 0", 0, x.ofArcher(0, 7));
        Check.due("matches won of 1", 1, x.ofArcher(1, 7));
    }

    private static void lastArrows() {
        ArrowField x = Matches.byLastArrows();
        Check.dueState("shoot(1, 0) out of turn", x, () -> x.shoot(1, 0));
        x.shoot(0, 0);
        Matches.dueMatch("behind a last arrow", x, 0, 1, 4, 4, 0, 0, 1, 1);
        Check.dueState("shoot(0, 1) out of turn", x, () -> x.shoot(0, 1));
        x.shoot(1, 0);
        Matches.dueMatch("behind two of the same", x, 0, 1, 4, 4, 0, 0, 0, 1);
        x.string(0);
        x.string(1);
        x.tune(0, 6, 0);
        x.tune(1, 4, 0);
        x.shoot(0, 1);
        x.shoot(1, 1);
        Matches.dueMatch("as far above as below", x, 0, 1, 4, 4, 0, 0, 0, 1);
        x.tune(0, Matches.GOOD_SIGHT, 0);
        x.tune(1, 7, 0);
        Check.due("10 of the nearer one", 10, x.shoot(0, 2));
        Check.due("10 of the farther one", 10, x.shoot(1, 2));
        Matches.dueNoMatch("as it is won", x);
        Check.due("winner()", 0, x.winner());
        Check.due("matches won", 1, x.ofArcher(0, 7));
    }

    private static void lastArrowsOfOther() {
        ArrowField x = Matches.byLastArrows();
        x.tune(0, 2, 0);
        x.shoot(0, 0);
        x.pull();
        Matches.dueMatch("behind a pull", x, 0, 1, 4, 4, 0, 0, 1, 1);
        x.shoot(1, 0);
        Matches.dueNoMatch("as it is won", x);
        Check.due("winner()", 1, x.winner());
    }

    private static void pullDoesNotTouchIt() {
        ArrowField x = Matches.three();
        x.match(0, 1);
        x.shoot(0, 0);
        x.pull();
        Matches.dueMatch("behind a pull", x, 0, 1, 0, 0, 10, 0, 1, 0);
        x.shoot(1, 0);
        x.shoot(0, 0);
        x.tune(1, Matches.BAD_SIGHT, 0);
        x.shoot(1, 1);
        Matches.dueMatch("behind a set with a pull", x, 0, 1, 2, 0, 0, 0, 0, 0);
    }

    private static void breakOff() {
        ArrowField x = Matches.three();
        Check.dueState("breakOff() of none", x, () -> x.breakOff());
        x.match(0, 1);
        Check.due("breakOff() at once", 0, x.breakOff());
        Check.dueState("breakOff() again", x, () -> x.breakOff());
        x.match(1, 0);
        Matches.shootSets(x, 1, 0, "1");
        Matches.shootSets(x, 1, 0, "=");
        x.shoot(1, 0);
        Check.due("breakOff()", 31, x.breakOff());
        Matches.dueNoMatch("broken off", x);
        Check.due("winner()", -1, x.winner());
        Check.due("many(9)", 2, x.many(9));
        x.shoot(1, 1);
        Check.due("match(0, 1)", 3, x.match(0, 1));
        Matches.dueMatch("of the third match", x, 0, 1, 0, 0, 0, 0, 0, 0);
        x.breakOff();
        ArrowField y = Matches.byLastArrows();
        y.shoot(0, 0);
        Check.due("breakOff() by last arrows", 44, y.breakOff());
        y.match(0, 1);
        Matches.dueMatch("behind broken off last arrows", y, 0, 1, 0, 0, 0, 0, 0, 0);
    }
}
