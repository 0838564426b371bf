import java.math.BigInteger;
import java.util.Arrays;

/**
 * Section 3 of the document and promises 10 to 15, 21, 22 and 28: each sentence that names an edge has a test of its
 * own, which quotes it.
 */
public final class EdgesOfMatchesTest {
    public static void main(String[] args) {
        endIsSinceTheLastPull();
        endCountsTens();
        endIsOfTheArcher();
        pullOfNone();
        pullOfStuckAndAway();
        pullOfAllQuivers();
        mendOfNone();
        mendOfBrokenOnes();
        mendOfNoSuchQuiver();
        matchOfNoSuchArcher();
        matchOfTheSame();
        matchWhileOneIsOn();
        matchWithoutAQuiver();
        matchNamesIndexFirst();
        matchesThatBeganEver();
        setOfFourArrows();
        firstOneBeginsEachSet();
        pointsOfASet();
        sumOfASet();
        fourPointsWin();
        threePointsDoNot();
        fourEachDoNot();
        lastArrowsOneEach();
        lastArrowsByTheNearer();
        lastArrowsByBothHAndV();
        lastArrowsOfTheSame();
        nobodyElseShoots();
        pullDoesNotTouchAMatch();
        isOverAsOneWins();
        isOverAsItIsBrokenOff();
        shotsOfNoMatch();
        breakOffOfNone();
        breakOffAnswersPoints();
        ofMatchFrom0To7();
        ofMatchOfNone();
        winnerOfNone();
        winnerOfTheLatest();
        closeAnswersWhatWas();
        closedForShootingAlone();
        hornIsCounted();
        hornHoldsNothing();
        digestBegins();
        digestWrapsAround();
        digestCutsProducts();
        Check.end();
    }

    private static void dueEnd(String when, ArrowField x, int archer, int... due) {
        for (int i = 0; i < due.length; i++) {
            Check.due("ofArcher(" + archer + ", " + (8 + i) + ") " + when, due[i], x.ofArcher(archer, 8 + i));
        }
    }

    /** "What somebody SHOT since the last PULL is the END of that one"; "the ENDS of all are gone" */
    private static void endIsSinceTheLastPull() {
        ArrowField x = Matches.three();
        dueEnd("at first", x, 0, 0, 0, 0);
        x.shoot(0, 0);
        x.shoot(0, 1);
        x.shoot(1, 0);
        x.mend(0);
        x.string(0);
        x.close(true);
        x.close(false);
        dueEnd("of 0", x, 0, 20, 2, 2);
        dueEnd("of 1", x, 1, 10, 1, 1);
        dueEnd("of 2", x, 2, 0, 0, 0);
        x.pull();
        for (int archer = 0; archer < 3; archer++) {
            dueEnd("behind the pull", x, archer, 0, 0, 0);
        }
        x.shoot(0, 3);
        dueEnd("of 0 behind the pull", x, 0, 10, 1, 1);
        Check.due("SHOTS ever", 3, x.ofArcher(0, 5));
        Check.due("SCORES ever", 30, x.ofArcher(0, 6));
    }

    /** "a sum of SCORES, how many SHOTS, and how many of these were worth 10": 9 is no 10, and 0 is a SHOT */
    private static void endCountsTens() {
        ArrowField x = Fields.slow(1, 1);
        x.quiver(Fields.SLOW_MASS, Fields.SLOW_SPINE + 1);
        x.give(0, 1);
        x.tune(0, 6, 0);
        Check.due("shoot(0, 0)", 9, x.shoot(0, 0));
        dueEnd("with 9", x, 0, 9, 1, 0);
        x.tune(0, 127, 0);
        Check.due("shoot(0, 1)", 0, x.shoot(0, 1));
        dueEnd("with 9 and 0", x, 0, 9, 2, 0);
        x.tune(0, 5, 0);
        Check.due("shoot(0, 2)", 10, x.shoot(0, 2));
        dueEnd("with 9, 0 and 10", x, 0, 19, 3, 1);
    }

    /** "What somebody SHOT": by whatever QUIVER, and though somebody else has it now */
    private static void endIsOfTheArcher() {
        ArrowField x = Matches.three();
        x.shoot(0, 0);
        x.give(1, 0);
        dueEnd("of who shot", x, 0, 10, 1, 1);
        dueEnd("of who has the quiver", x, 1, 0, 0, 0);
        x.give(0, 2);
        x.shoot(0, 0);
        dueEnd("of who shot two", x, 0, 20, 2, 2);
    }

    /** "Returns how many were STUCK.": none on a new field, nor behind a PULL, nor of those AWAY or BROKEN */
    private static void pullOfNone() {
        Check.due("pull() of a new field", 0, new ArrowField().pull());
        ArrowField x = Matches.three();
        Check.due("pull() before a shot", 0, x.pull());
        x.shoot(0, 0);
        x.shoot(0, 1);
        Check.due("pull() of one stuck and one broken", 1, x.pull());
        Check.due("pull() of one broken", 0, x.pull());
        x.tune(0, 127, 0);
        x.shoot(0, 2);
        Check.due("pull() of one away and one broken", 0, x.pull());
    }

    /** "all that are STUCK or AWAY are HERE": and those that are BROKEN stay so */
    private static void pullOfStuckAndAway() {
        ArrowField x = Matches.three();
        x.shoot(0, 0);
        x.shoot(0, 1);
        x.tune(0, 127, 0);
        x.shoot(0, 2);
        Check.due("set of those HERE", 4095 - 7, x.ofQuiver(0, 3));
        x.pull();
        Check.due("set of those HERE behind the pull", 4095 - 1, x.ofQuiver(0, 3));
        Check.due("set of stuck ones", 0, x.ofQuiver(0, 4));
        Check.due("set of those away", 0, x.ofQuiver(0, 5));
        Check.due("set of broken ones", 1, x.ofQuiver(0, 6));
    }

    /** "all that are STUCK or AWAY": of all six QUIVERS, of one that nobody has too */
    private static void pullOfAllQuivers() {
        ArrowField x = Fields.slow(6, 8);
        for (int archer = 0; archer < 6; archer++) {
            x.tune(archer, 5 + archer, 0);
            x.shoot(archer, archer);
            x.shoot(archer, 11 - archer);
        }
        x.give(0, 5);
        Check.due("who has quiver 0", -1, x.ofQuiver(0, 2));
        int stuck = x.many(5);
        Check.due("pull()", stuck, x.pull());
        Check.due("many(5)", 0, x.many(5));
        for (int quiver = 0; quiver < 6; quiver++) {
            int hereOrBroken = x.ofQuiver(quiver, 3) | x.ofQuiver(quiver, 6);
            Check.due("set of those HERE or broken of " + quiver, 4095, hereOrBroken);
        }
    }

    /** "Returns how many were BROKEN.": none at first, nor again */
    private static void mendOfNone() {
        ArrowField x = Matches.three();
        Check.due("mend(0) at first", 0, x.mend(0));
        x.shoot(0, 0);
        Check.due("mend(0) of one stuck", 0, x.mend(0));
        x.shoot(0, 1);
        Check.due("mend(0) of one broken", 1, x.mend(0));
        Check.due("mend(0) again", 0, x.mend(0));
    }

    /** "To MEND a QUIVER: its BROKEN ones are HERE.": its others stay as they are, and so do those of others */
    private static void mendOfBrokenOnes() {
        ArrowField x = Matches.three();
        x.shoot(0, 0);
        x.shoot(1, 0);
        x.shoot(0, 1);
        x.tune(0, 127, 0);
        x.shoot(0, 2);
        x.tune(1, 127, 0);
        x.shoot(1, 2);
        Check.due("broken of 0", 1, x.ofQuiver(0, 6));
        Check.due("broken of 1", 1, x.ofQuiver(1, 6));
        Check.due("mend(0)", 1, x.mend(0));
        Check.due("HERE of 0", 4095 - 6, x.ofQuiver(0, 3));
        Check.due("stuck of 0", 2, x.ofQuiver(0, 4));
        Check.due("away of 0", 4, x.ofQuiver(0, 5));
        Check.due("broken of 0", 0, x.ofQuiver(0, 6));
        Check.due("broken of 1 still", 1, x.ofQuiver(1, 6));
        Check.due("SPLITS ever", 2, x.many(7));
    }

    /** "IndexOutOfBoundsException if there is no such QUIVER": of mend() */
    private static void mendOfNoSuchQuiver() {
        ArrowField x = Matches.three();
        Check.dueIndexBeside("mend()", x, 3, quiver -> x.mend(quiver));
        Check.dueIndex("mend(5)", x, () -> x.mend(5));
    }

    /** "IndexOutOfBoundsException if there is no such ARCHER, of both" */
    private static void matchOfNoSuchArcher() {
        ArrowField x = Matches.three();
        Check.dueIndexBeside("match(.., 0)", x, 3, one -> x.match(one, 0));
        Check.dueIndexBeside("match(0, ..)", x, 3, other -> x.match(0, other));
    }

    /** "IllegalArgumentException if both are the same" */
    private static void matchOfTheSame() {
        ArrowField x = Matches.three();
        for (int archer = 0; archer < 3; archer++) {
            int both = archer;
            Check.dueArgument("match() of both " + both, x, () -> x.match(both, both));
        }
    }

    /** "IllegalStateException if a MATCH is on": of the same two or of others, by LAST ARROWS too */
    private static void matchWhileOneIsOn() {
        ArrowField x = Matches.three();
        x.match(0, 1);
        Check.dueState("match(0, 1) in it", x, () -> x.match(0, 1));
        Check.dueState("match(1, 2) in it", x, () -> x.match(1, 2));
        ArrowField last = Matches.byLastArrows();
        Check.dueState("match(0, 1) by last arrows", last, () -> last.match(0, 1));
    }

    /** "or one of both has no QUIVER" */
    private static void matchWithoutAQuiver() {
        ArrowField x = Matches.three();
        x.archer(40, 5);
        x.archer(40, 5);
        Check.dueState("match(3, 0)", x, () -> x.match(3, 0));
        Check.dueState("match(0, 3)", x, () -> x.match(0, 3));
        Check.dueState("match(3, 4)", x, () -> x.match(3, 4));
        x.give(3, 0);
        Check.dueState("match(0, 3) behind its giving", x, () -> x.match(0, 3));
        Check.due("match(3, 1)", 1, x.match(3, 1));
    }

    /** "If several exceptions apply, the one that is named first is thrown": of match() */
    private static void matchNamesIndexFirst() {
        ArrowField x = Matches.three();
        x.archer(40, 5);
        Check.dueIndexBeside("match() of the same", x, 4, both -> x.match(both, both));
        Check.dueIndexBeside("match(3, ..) without a quiver", x, 4, other -> x.match(3, other));
        Check.dueArgument("match(3, 3) without a quiver", x, () -> x.match(3, 3));
        x.match(0, 1);
        Check.dueIndexBeside("match(0, ..) in a match", x, 4, other -> x.match(0, other));
        Check.dueIndexBeside("match(.., 0) in a match", x, 4, one -> x.match(one, 0));
        Check.dueArgument("match(1, 1) in a match", x, () -> x.match(1, 1));
    }

    /** "Returns how many MATCHES began ever, with this.": broken off ones too, but no refused ones */
    private static void matchesThatBeganEver() {
        ArrowField x = Matches.three();
        Check.due("many(9) at first", 0, x.many(9));
        for (int began = 1; began <= 5; began++) {
            Check.due("match(0, 1)", began, x.match(0, 1));
            Check.dueState("match(1, 2)", x, () -> x.match(1, 2));
            Check.due("many(9)", began, x.many(9));
            x.breakOff();
        }
    }

    /** "SETS of 4 ARROWS, 2 of each ARCHER": there are no POINTS behind 3 of them, and there are behind the 4th */
    private static void setOfFourArrows() {
        ArrowField x = Matches.three();
        x.tune(1, Matches.BAD_SIGHT, 0);
        x.match(0, 1);
        Matches.dueMatch("behind none", x, 0, 1, 0, 0, 0, 0, 0, 0);
        x.shoot(0, 0);
        Matches.dueMatch("behind one", x, 0, 1, 0, 0, 10, 0, 1, 0);
        x.shoot(1, 0);
        Matches.dueMatch("behind two", x, 0, 1, 0, 0, 10, 0, 0, 0);
        x.shoot(0, 1);
        Matches.dueMatch("behind three", x, 0, 1, 0, 0, 20, 0, 1, 0);
        x.shoot(1, 1);
        Matches.dueMatch("behind four", x, 0, 1, 2, 0, 0, 0, 0, 0);
        x.shoot(0, 2);
        Matches.dueMatch("behind five", x, 0, 1, 2, 0, 10, 0, 1, 0);
    }

    /** "shot in turns (one by one; the first one begins each SET)": also behind one that the other one has won */
    private static void firstOneBeginsEachSet() {
        ArrowField x = Matches.three();
        x.match(2, 1);
        for (char won : new char[] {'2', '1', '='}) {
            Check.due("whose turn begins the set", 2, x.ofMatch(6));
            Check.dueState("shoot(1, 5)", x, () -> x.shoot(1, 5));
            Matches.shootSets(x, 2, 1, String.valueOf(won));
        }
        Check.due("whose turn begins the fourth set", 2, x.ofMatch(6));
    }

    /** "The one with the greater sum of a SET has 2 POINTS, with the same sum both have 1" */
    private static void pointsOfASet() {
        String[] sets = {"1", "2", "=", "12", "1=", "=2", "==", "===", "12="};
        int[][] due = {{2, 0}, {0, 2}, {1, 1}, {2, 2}, {3, 1}, {1, 3}, {2, 2}, {3, 3}, {3, 3}};
        for (int i = 0; i < sets.length; i++) {
            ArrowField x = Matches.three();
            x.match(0, 1);
            Matches.shootSets(x, 0, 1, sets[i]);
            Matches.dueMatch("behind " + sets[i], x, 0, 1, due[i][0], due[i][1], 0, 0, 0, 0);
        }
    }

    /** "the greater sum": one more is enough, and both ARROWS count; by 5, 29 and 37 one is worth 10, 6 and 5. */
    private static void sumOfASet() {
        int[][] sights = {{5, 29, 29, 5}, {5, 29, 37, 5}, {29, 5, 5, 37}, {29, 37, 29, 29}, {127, 127, 127, 127}};
        int[][] due = {{1, 1}, {0, 2}, {2, 0}, {2, 0}, {1, 1}};
        for (int i = 0; i < sights.length; i++) {
            ArrowField x = Matches.three();
            x.match(0, 1);
            for (int shot = 0; shot < 4; shot++) {
                x.string(shot % 2);
                x.tune(shot % 2, sights[i][shot], 0);
                x.shoot(shot % 2, shot);
            }
            Matches.dueMatch("of sum " + i, x, 0, 1, due[i][0], due[i][1], 0, 0, 0, 0);
        }
    }

    /** "One wins, as it has 4 POINTS or more, and the other one fewer than 4.": 4 to 0, 4 to 2 and 5 to 3 */
    private static void fourPointsWin() {
        String[] sets = {"11", "22", "1==", "==2", "121", "212", "===1", "12=2", "=1=", "2=="};
        int[] due = {0, 1, 0, 1, 0, 1, 0, 1, 0, 1};
        for (int i = 0; i < sets.length; i++) {
            ArrowField x = Matches.three();
            x.match(0, 1);
            Matches.shootSets(x, 0, 1, sets[i].substring(0, sets[i].length() - 1));
            Check.due("winner() before the last set of " + sets[i], -1, x.winner());
            Check.due("ofMatch(0) before it", 0, x.ofMatch(0));
            Matches.shootSets(x, 0, 1, sets[i].substring(sets[i].length() - 1));
            Matches.dueNoMatch("behind " + sets[i], x);
            Check.due("winner() behind " + sets[i], due[i], x.winner());
            Check.due("MATCHES won of the winner", 1, x.ofArcher(due[i], 7));
            Check.due("MATCHES won of the other one", 0, x.ofArcher(1 - due[i], 7));
        }
    }

    /** "as it has 4 POINTS or more": 3 to 1, 2 to 2 and 3 to 3 are not enough */
    private static void threePointsDoNot() {
        for (String sets : new String[] {"1=", "=2", "12", "=="}) {
            ArrowField x = Matches.three();
            x.match(0, 1);
            Matches.shootSets(x, 0, 1, sets);
            Check.due("ofMatch(0) behind " + sets, 0, x.ofMatch(0));
            Check.due("winner() behind " + sets, -1, x.winner());
            Check.due("MATCHES won", 0, x.ofArcher(0, 7) + x.ofArcher(1, 7));
        }
    }

    /** "and the other one fewer than 4"; "With 4 each: LAST ARROWS" */
    private static void fourEachDoNot() {
        for (String sets : new String[] {"====", "12==", "21==", "=12=", "=21="}) {
            ArrowField x = Matches.three();
            x.match(1, 2);
            Matches.shootSets(x, 1, 2, sets);
            Matches.dueMatch("behind " + sets, x, 1, 2, 4, 4, 0, 0, 1, 1);
            Check.due("winner() behind " + sets, -1, x.winner());
        }
    }

    /** "LAST ARROWS, one each, in the same turns"; "(0 as it is by LAST ARROWS)" */
    private static void lastArrowsOneEach() {
        ArrowField x = Matches.byLastArrows();
        Check.dueState("shoot(1, 0), the other one first", x, () -> x.shoot(1, 0));
        Check.dueState("shoot(2, 0), one who is not in it", x, () -> x.shoot(2, 0));
        Check.due("shoot(0, 0)", 10, x.shoot(0, 0));
        Matches.dueMatch("behind one last arrow", x, 0, 1, 4, 4, 0, 0, 1, 1);
        Check.dueState("shoot(0, 1), a second one", x, () -> x.shoot(0, 1));
        x.tune(1, 6, 0);
        Check.due("shoot(1, 0)", 10, x.shoot(1, 0));
        Matches.dueNoMatch("behind one each", x);
        Check.due("winner()", 0, x.winner());
    }

    /** "the nearer one (by H * H + V * V) wins": of the same SCORE too, on either side, and though neither hits */
    private static void lastArrowsByTheNearer() {
        int[][] sights = {{5, 6, 0}, {6, 5, 1}, {4, 7, 0}, {8, 3, 1}, {100, 99, 1}, {99, 100, 0}, {127, 0, 1}};
        for (int[] of : sights) {
            ArrowField x = Matches.byLastArrows();
            x.tune(0, of[0], 0);
            x.tune(1, of[1], 0);
            x.shoot(0, 0);
            x.shoot(1, 0);
            Matches.dueNoMatch("by " + of[0] + " and " + of[1], x);
            Check.due("winner() by " + of[0] + " and " + of[1], of[2], x.winner());
            Check.due("MATCHES won", 1, x.ofArcher(of[2], 7));
        }
    }

    /** FAST bows with these SPINES, in a MATCH by LAST ARROWS, with these NOCKS then. */
    private static ArrowField fastLastArrows(int spineOfOne, int spineOfOther, int nockOfOne, int nockOfOther) {
        ArrowField x = new ArrowField();
        for (int spine : new int[] {spineOfOne, spineOfOther}) {
            x.archer(Fields.FAST_DRAW, Fields.NO_SHAKE);
            x.quiver(Fields.FAST_MASS, spine);
        }
        x.give(0, 0);
        x.give(1, 1);
        x.field(10, 0, 8);
        x.match(0, 1);
        for (int set = 0; set < 4; set++) {
            for (int shot = 0; shot < 4; shot++) {
                x.shoot(shot % 2, shot / 2);
            }
            Matches.fetchAll(x);
        }
        x.tune(0, 0, nockOfOne);
        x.tune(1, 0, nockOfOther);
        x.shoot(0, 0);
        x.shoot(1, 0);
        return x;
    }

    /** "by H * H + V * V": H is (SPINE - 460) / 2048 and V (2 * NOCK - 5) / 128 here, so 16 of SPINE are 1 / 128. */
    private static void lastArrowsByBothHAndV() {
        Check.due("the same V, H decides", 1, fastLastArrows(476, 475, 2, 2).winner());
        Check.due("the same V, H on the other side decides", 0, fastLastArrows(445, 476, 2, 2).winner());
        Check.due("V is nearer, but H * H + V * V is not", 1, fastLastArrows(540, 492, 2, 4).winner());
        Check.due("H is nearer, but H * H + V * V is not", 0, fastLastArrows(476, 460, 2, 5).winner());
        Matches.dueMatch("H and V change places", fastLastArrows(508, 476, 2, 4), 0, 1, 4, 4, 0, 0, 0, 1);
    }

    /** "with the same, once more.": as often as it takes, the first one first */
    private static void lastArrowsOfTheSame() {
        ArrowField x = Matches.byLastArrows();
        for (int again = 0; again < 10; again++) {
            x.tune(0, 6, 0);
            x.tune(1, again % 2 == 0 ? 6 : 4, 0);
            x.string(0);
            x.string(1);
            x.shoot(0, 0);
            Matches.dueMatch("behind one more", x, 0, 1, 4, 4, 0, 0, 1, 1);
            x.shoot(1, 0);
            Matches.dueMatch("behind one more each", x, 0, 1, 4, 4, 0, 0, 0, 1);
            Matches.fetchAll(x);
        }
        x.tune(0, 7, 0);
        x.shoot(0, 0);
        x.string(1);
        x.shoot(1, 0);
        Check.due("winner()", 1, x.winner());
    }

    /** "While a MATCH is on, nobody else SHOOTS, and none SHOOTS out of turn": nor as the field was opened again */
    private static void nobodyElseShoots() {
        ArrowField x = Matches.three();
        x.match(0, 1);
        for (int shot = 0; shot < 3; shot++) {
            int other = 1 - shot % 2;
            int next = shot + 4;
            Check.dueState("shoot(2, 0)", x, () -> x.shoot(2, 0));
            Check.dueState("shoot() of " + other, x, () -> x.shoot(other, next));
            x.close(true);
            x.close(false);
            Check.dueState("shoot(2, 1)", x, () -> x.shoot(2, 1));
            x.shoot(shot % 2, shot);
        }
        Check.due("SHOTS of 2", 0, x.ofArcher(2, 5));
    }

    /** "PULLS do not touch it": nor does one in the midst of a SET or of LAST ARROWS */
    private static void pullDoesNotTouchAMatch() {
        ArrowField x = Matches.three();
        x.match(0, 1);
        x.shoot(0, 0);
        x.pull();
        dueEnd("is gone", x, 0, 0, 0, 0);
        Matches.dueMatch("behind a pull", x, 0, 1, 0, 0, 10, 0, 1, 0);
        x.tune(1, Matches.BAD_SIGHT, 0);
        x.shoot(1, 0);
        x.pull();
        x.shoot(0, 0);
        x.pull();
        x.shoot(1, 0);
        x.pull();
        Matches.dueMatch("behind a set", x, 0, 1, 2, 0, 0, 0, 0, 0);
        ArrowField last = Matches.byLastArrows();
        last.tune(0, 6, 0);
        last.shoot(0, 0);
        last.pull();
        Matches.dueMatch("by last arrows", last, 0, 1, 4, 4, 0, 0, 1, 1);
        last.shoot(1, 0);
        Check.due("winner()", 1, last.winner());
    }

    /** "It is over, as one wins": at once, and anybody SHOOTS then */
    private static void isOverAsOneWins() {
        ArrowField x = Matches.three();
        x.match(0, 1);
        Matches.shootSets(x, 0, 1, "11");
        Matches.dueNoMatch("behind the win", x);
        Check.dueState("breakOff()", x, () -> x.breakOff());
        Check.due("shoot(2, 0)", 10, x.shoot(2, 0));
        Check.due("shoot(2, 1)", 10, x.shoot(2, 1));
        Check.due("give(0, 0)", 0, x.give(0, 0));
        Check.due("match(1, 2)", 2, x.match(1, 2));
        Matches.dueMatch("of the next one", x, 1, 2, 0, 0, 0, 0, 1, 0);
    }

    /** "or it is BROKEN OFF": from then on there is none, in the midst of a SET or by LAST ARROWS, and nobody won */
    private static void isOverAsItIsBrokenOff() {
        ArrowField x = Matches.three();
        x.match(0, 1);
        x.shoot(0, 0);
        x.breakOff();
        Matches.dueNoMatch("broken off", x);
        x.shoot(0, 1);
        x.shoot(2, 1);
        x.match(1, 0);
        Matches.dueMatch("of the next one", x, 1, 0, 0, 0, 0, 0, 1, 0);
        ArrowField last = Matches.byLastArrows();
        last.shoot(0, 0);
        last.breakOff();
        Matches.dueNoMatch("broken off by last arrows", last);
        last.match(0, 1);
        Matches.dueMatch("of the next one", last, 0, 1, 0, 0, 0, 0, 0, 0);
        Check.due("winner()", -1, last.winner());
    }

    /** What is SHOT while none is on wins no MATCH: before the first one, nor behind one BROKEN OFF or won. */
    private static void shotsOfNoMatch() {
        ArrowField x = Matches.three();
        shootOn(x);
        Check.due("winner() before the first", -1, x.winner());
        x.match(1, 0);
        Matches.shootSets(x, 1, 0, "1=");
        x.breakOff();
        shootOn(x);
        Check.due("winner() behind one broken off", -1, x.winner());
        x.match(2, 0);
        Matches.shootSets(x, 2, 0, "11");
        shootOn(x);
        Check.due("winner() behind one won", 2, x.winner());
        Check.due("MATCHES won", 1, x.ofArcher(0, 7) + x.ofArcher(1, 7) + x.ofArcher(2, 7));
        Matches.dueNoMatch("behind all of them", x);
    }

    private static void shootOn(ArrowField x) {
        x.tune(1, Matches.BAD_SIGHT, 0);
        for (int shot = 0; shot < 16; shot++) {
            x.shoot(shot % 2, 0);
            Matches.fetchAll(x);
        }
        x.tune(1, Matches.GOOD_SIGHT, 0);
    }

    /** "IllegalStateException if none is on": of breakOff() */
    private static void breakOffOfNone() {
        ArrowField empty = new ArrowField();
        Check.dueState("breakOff() of a new field", empty, () -> empty.breakOff());
        ArrowField x = Matches.three();
        Check.dueState("breakOff() before the first", x, () -> x.breakOff());
        x.match(0, 1);
        x.breakOff();
        Check.dueState("breakOff() again", x, () -> x.breakOff());
        x.match(0, 1);
        Matches.shootSets(x, 0, 1, "22");
        Check.dueState("breakOff() behind a win", x, () -> x.breakOff());
    }

    /** "Returns POINTS of the first one, times 10, and those of the other one." */
    private static void breakOffAnswersPoints() {
        String[] sets = {"", "1", "2", "=", "1=", "=2", "12", "===", "===="};
        int[] due = {0, 20, 2, 11, 31, 13, 22, 33, 44};
        for (int i = 0; i < sets.length; i++) {
            ArrowField x = Matches.three();
            x.match(2, 0);
            Matches.shootSets(x, 2, 0, sets[i]);
            x.shoot(2, 0);
            Check.due("breakOff() behind " + sets[i], due[i], x.breakOff());
        }
    }

    /** "IllegalArgumentException if what is not 0 to 7": of ofMatch(), whether one is on or not */
    private static void ofMatchFrom0To7() {
        ArrowField x = Matches.three();
        Check.dueArgumentBeside("ofMatch() of none", x, 0, 7, what -> x.ofMatch(what));
        x.match(1, 2);
        Check.dueArgumentBeside("ofMatch()", x, 0, 7, what -> x.ofMatch(what));
        Check.due("ofMatch(0)", 1, x.ofMatch(0));
        Check.due("ofMatch(7)", 0, x.ofMatch(7));
    }

    /** "NONE, if none is on." */
    private static void ofMatchOfNone() {
        Matches.dueNoMatch("of a new field", new ArrowField());
        ArrowField x = Matches.three();
        Matches.dueNoMatch("before the first", x);
        x.match(0, 1);
        x.breakOff();
        Matches.dueNoMatch("behind it", x);
    }

    /** "NONE, if none was.": though one is on, or was BROKEN OFF */
    private static void winnerOfNone() {
        Check.due("winner() of a new field", -1, new ArrowField().winner());
        ArrowField x = Matches.three();
        x.match(0, 1);
        Matches.shootSets(x, 0, 1, "1");
        Check.due("winner() while the first is on", -1, x.winner());
        x.breakOff();
        Check.due("winner() behind one broken off", -1, x.winner());
    }

    /** "Returns who won the latest MATCH that was won" */
    private static void winnerOfTheLatest() {
        ArrowField x = Matches.three();
        x.match(0, 1);
        Matches.shootSets(x, 0, 1, "22");
        Check.due("winner() of the first", 1, x.winner());
        x.match(0, 2);
        Matches.shootSets(x, 0, 2, "1");
        Check.due("winner() while the second is on", 1, x.winner());
        x.breakOff();
        Check.due("winner() behind one broken off", 1, x.winner());
        x.match(2, 0);
        Matches.shootSets(x, 2, 0, "22");
        Check.due("winner() of the third", 0, x.winner());
        x.match(1, 2);
        Matches.shootSets(x, 1, 2, "11");
        Check.due("winner() of the fourth", 1, x.winner());
        Check.due("MATCHES won of 1", 2, x.ofArcher(1, 7));
    }

    /** "CLOSES the field, or opens it. .. Returns whether it was." */
    private static void closeAnswersWhatWas() {
        ArrowField x = new ArrowField();
        boolean[] is = {false, true, true, false, false, true};
        boolean before = false;
        for (boolean now : is) {
            Check.due("close(" + now + ")", before, x.close(now));
            Check.due("many(10)", now ? 1 : 0, x.many(10));
            before = now;
        }
    }

    /** "While the field is CLOSED, nobody SHOOTS.": all else goes on */
    private static void closedForShootingAlone() {
        ArrowField x = Matches.three();
        x.shoot(0, 0);
        x.close(true);
        Check.dueState("shoot(0, 1)", x, () -> x.shoot(0, 1));
        Check.due("archer(40, 5)", 3, x.archer(40, 5));
        Check.due("quiver(400, 700)", 3, x.quiver(400, 700));
        Check.due("give(3, 3)", -1, x.give(3, 3));
        Check.due("tune(0, 7, 1)", 5, x.tune(0, 7, 1));
        Check.due("string(0)", 0.00390625, x.string(0));
        Check.due("wind(3)", 0, x.wind(3));
        Check.due("match(0, 1)", 1, x.match(0, 1));
        Check.dueState("shoot(0, 1) in the match", x, () -> x.shoot(0, 1));
        Check.due("breakOff()", 0, x.breakOff());
        Check.due("pull()", 1, x.pull());
        Check.due("mend(0)", 0, x.mend(0));
        Check.due("field(20, 0, 4)", 10, x.field(20, 0, 4));
        Check.due("horn()", 1, x.horn());
        Check.due("close(true)", true, x.close(true));
    }

    /** "Returns how many were REFUSED ever, with this."; "is REFUSED (counted)" */
    private static void hornIsCounted() {
        ArrowField x = new ArrowField();
        Check.due("many(11) at first", 0, x.many(11));
        for (int blown = 1; blown <= 20; blown++) {
            Check.due("horn()", blown, x.horn());
            x.pull();
            Check.due("many(11)", blown, x.many(11));
        }
    }

    /** "who blows it holds nothing": whether a MATCH is on or the field is CLOSED, nothing is held by it */
    private static void hornHoldsNothing() {
        ArrowField x = Matches.three();
        x.horn();
        Check.due("shoot(0, 0)", 10, x.shoot(0, 0));
        x.match(0, 1);
        x.horn();
        Matches.dueMatch("behind the horn", x, 0, 1, 0, 0, 0, 0, 0, 0);
        Check.due("shoot(0, 1)", 10, x.shoot(0, 1));
        x.horn();
        Check.due("shoot(1, 1)", 10, x.shoot(1, 1));
        x.close(true);
        Check.due("horn() while closed", 4, x.horn());
        Check.due("many(10)", 1, x.many(10));
        Check.due("other refusals are not counted", 4, refusedBehindAThrow(x));
    }

    private static int refusedBehindAThrow(ArrowField x) {
        Check.dueState("shoot(0, 2) while closed", x, () -> x.shoot(0, 2));
        return x.many(11);
    }

    private static long reckoned(long... values) {
        BigInteger d = BigInteger.valueOf(58318);
        for (long value : values) {
            d = d.multiply(BigInteger.valueOf(31)).add(BigInteger.valueOf(value));
        }
        return d.longValue();
    }

    /** "A number d starts with 58318 .. for each v in this order": of a field that has nobody and nothing */
    private static void digestBegins() {
        long due = reckoned(0, 0, 18, 0, 4, 0, 0, 0, 0, 0, 0, 0, -1, -1, -1, -1, -1, -1, -1, -1, -1);
        Check.due("digest() of a new field", due, new ArrowField().digest());
    }

    /** "which wraps around as a 64-bit integer": these values would lead far beyond it, and both signs come about */
    private static void digestWrapsAround() {
        ArrowField x = new ArrowField();
        boolean below = false;
        boolean above = false;
        for (int distance = 10; distance <= 90; distance++) {
            x.field(distance, 0, 4);
            long due = reckoned(0, 0, distance, 0, 4, 0, 0, 0, 0, 0, 0, 0, -1, -1, -1, -1, -1, -1, -1, -1, -1);
            Check.due("digest() with DISTANCE " + distance, due, x.digest());
            below |= due < 0;
            above |= due > 0;
        }
        Check.due("both signs were seen", true, below && above);
    }

    /** "(Each product is cut to a whole number, as (long) does.)": towards 0, from below too, and behind the product */
    private static void digestCutsProducts() {
        ArrowField x = new ArrowField();
        x.archer(37, 8);
        x.quiver(301, 300);
        x.give(0, 0);
        x.tune(0, 3, 0);
        x.field(51, -1, 8);
        x.shoot(0, 0);
        double speed = 1024 * x.speed(0);
        double h = 4096 * x.hit(0, 0, false);
        double v = 4096 * x.hit(0, 0, true);
        Check.due("speed() has a rest", true, speed > Math.floor(speed));
        Check.due("H has a rest below 0", true, h < 0 && h > Math.floor(h));
        Check.due("V has a rest below 0", true, v < 0 && v > Math.floor(v));
        long[] values = {1, 1, 51, -1, 8, 0, 1, 0, 7, 0, 0, 0, -1, -1, -1, -1, -1, -1, -1, -1, -1,
            37, 8, 3, 0, 0, 1, 0, 0, 0, 1, 0, (long) Math.floor(speed), 0,
            301, 300, 0, 4094, 0, 1, 0, (long) Math.ceil(h), (long) Math.ceil(v)};
        int hitsOfOthers = 2 * 11;
        Check.due("digest()", reckoned(Arrays.copyOf(values, values.length + hitsOfOthers)), x.digest());
    }
}
