/**
 * Section 2 of the document and promises 9, 19 and 23 to 27: each sentence that names an edge has a test of its own,
 * which quotes it.
 */
public final class EdgesOfFlightsTest {
    private static final double NEAR = 0.015625;

    /** DRAW, MASS and SIGHT of two whose V from 10 are just less, or just more, than 0.015625 apart. */
    private static final int[][] NEARLY_LESS = {{54, 571, 16}, {42, 207, 10}};
    private static final int[][] NEARLY_MORE = {{45, 354, 9}, {42, 389, 11}};

    public static void main(String[] args) {
        endsAsXIsTheDistanceOrMore();
        flightAlwaysEnds();
        shortestFlight();
        drawnIs0AtFirst();
        drawnGoesRound();
        drawnIsOneForAll();
        shakeOfEveryDrawn();
        noShakeOfTheSteadiest();
        shakeGrowsWithTheDistance();
        scoreIsTheGreatest();
        scoreJustOnARing();
        scoreJustBesideARing();
        scoreByBothHAndV();
        stuckWith1AwayWith0();
        splitOnlyIfNearerByH();
        splitOnlyIfNearerByV();
        splitNeedsHAndV();
        splitIsByTheShakenHit();
        splitAlsoWithAScoreOf0();
        splitOfAnyQuiver();
        splitOfStuckOnesAlone();
        splitIsNotOfItself();
        smallestQuiverOfSeveral();
        smallestNumberOfSeveral();
        shootOfNoSuchArcher();
        shootOfNoSuchArrow();
        shootWhileClosed();
        shootWithoutAQuiver();
        shootOfAnArrowNotHere();
        shootOutOfTurn();
        shootNamesIndexFirst();
        hitOfNoSuchArrow();
        hitOfOneNeverShot();
        hitIsTheLastOne();
        wouldHitFrom0To127();
        wouldHitRefused();
        markIsTheNearest();
        markIsTheSmallestOfSeveral();
        markAtItsEdges();
        markRefused();
        bestIsTheNearestOnEitherSide();
        bestIsTheSmallestOfSeveral();
        bestIsNobodysOrTheOwn();
        bestIsNone();
        reachIsNoLessThan0();
        reachFrom10To90();
        reachRefused();
        wouldScoreFrom0To10();
        wouldScoreIsAsAllIsNow();
        wouldScoreRefused();
        askingChangesNothing();
        Check.end();
    }

    private static ArrowField shaking(int steady, int distance) {
        ArrowField x = new ArrowField();
        x.archer(Fields.SLOW_DRAW, steady);
        x.quiver(Fields.SLOW_MASS, Fields.SLOW_SPINE);
        x.give(0, 0);
        x.field(distance, 0, 8);
        x.tune(0, 5, 0);
        return x;
    }

    /** ARCHER 1 has the same bow as ARCHER 0, but no SHAKE. */
    private static ArrowField shakingBesideSteady() {
        ArrowField x = shaking(0, 10);
        x.archer(Fields.SLOW_DRAW, Fields.NO_SHAKE);
        x.quiver(Fields.SLOW_MASS, Fields.SLOW_SPINE);
        x.give(1, 1);
        x.tune(1, 5, 0);
        return x;
    }

    private static void dueTicks(ArrowField x, int nock, int ticks) {
        Check.due("V behind " + ticks + " ticks", Fields.fallen(nock, ticks), x.wouldHit(0, 0, true));
        x.wind(16);
        Check.due("H behind " + ticks + " ticks", ticks * (ticks - 1) / 128.0, x.wouldHit(0, 0, false));
    }

    /** "until X is DISTANCE or more": X gets nearer to it than a 2000th here, from above or from below. */
    private static void endsAsXIsTheDistanceOrMore() {
        dueTicks(Fields.straight(42, 506, 8, 43), 8, 20);
        dueTicks(Fields.straight(22, 531, 8, 10), 8, 9);
        dueTicks(Fields.straight(23, 575, 8, 90), 8, 97);
        dueTicks(Fields.straight(23, 542, 8, 50), 8, 47 + 1);
        dueTicks(Fields.straight(43, 600, 8, 10), 8, 5 + 1);
        dueTicks(Fields.straight(24, 553, 8, 90), 8, 89 + 1);
    }

    /** "(That always comes about.)": also for the slowest ARROW, with the most CREEP, to the greatest DISTANCE */
    private static void flightAlwaysEnds() {
        ArrowField x = Fields.straight(20, 600, 8, 10);
        Fields.wearString(x, 0, 33);
        x.field(90, 0, 8);
        double speed = 13.125;
        double way = 0.0;
        int ticks = 0;
        while (way < 90.0) {
            way += speed / 16.0;
            speed -= speed / 256.0;
            ticks++;
        }
        Check.due("there are more than 140 ticks", true, ticks > 140);
        dueTicks(x, 8, ticks);
        Check.due("shoot(0, 0)", 0, x.shoot(0, 0));
    }

    /** The fastest ARROW to the smallest DISTANCE: it does not hit before its second TICK, by any NOCK. */
    private static void shortestFlight() {
        for (int nock = -8; nock <= 8; nock++) {
            dueTicks(Fields.straight(60, 200, nock, 10), nock, 2);
        }
    }

    /** "DRAWN becomes (13 * DRAWN + 7) modulo 64 (0 at first" */
    private static void drawnIs0AtFirst() {
        ArrowField x = shaking(0, 10);
        Check.due("DRAWN at first", 0, x.many(8));
        x.shoot(0, 0);
        Check.due("DRAWN behind a shot", 7, x.many(8));
        x.shoot(0, 1);
        Check.due("DRAWN behind two: 98 modulo 64", 34, x.many(8));
        x.shoot(0, 2);
        Check.due("DRAWN behind three: 449 modulo 64", 1, x.many(8));
    }

    /** "modulo 64": never 64, each number once, and behind 64 SHOTS it is 0 as at first */
    private static void drawnGoesRound() {
        ArrowField x = shaking(9, 10);
        boolean[] seen = new boolean[64];
        for (int shot = 0; shot < 64; shot++) {
            x.shoot(0, 0);
            x.pull();
            int drawn = x.many(8);
            boolean isNew = drawn >= 0 && drawn < 64 && !seen[drawn];
            Check.due("DRAWN " + drawn + " is in range and new", true, isNew);
            if (isNew) {
                seen[drawn] = true;
            }
        }
        Check.due("DRAWN behind 64 shots", 0, x.many(8));
        x.shoot(0, 0);
        Check.due("DRAWN behind 65 shots", 7, x.many(8));
    }

    /** "one for all)": another ARCHER's SHOT goes on with it, and so does that of one without SHAKE */
    private static void drawnIsOneForAll() {
        ArrowField x = shakingBesideSteady();
        x.shoot(1, 0);
        Check.due("DRAWN behind a shot of 1", 7, x.many(8));
        Check.due("H of the steadiest one", 0.0, x.hit(1, 0, false));
        x.shoot(0, 0);
        Check.due("DRAWN behind a shot of 0", 34, x.many(8));
        Check.due("H by 34", (2 - 3.5) * 90 / 4096.0, x.hit(0, 0, false));
        Check.due("V by 34", (4 - 3.5) * 90 / 4096.0, x.hit(0, 0, true));
    }

    /** "(DRAWN modulo 8 - 3.5) .. (DRAWN / 8 - 3.5) .. (DRAWN / 8 whole": for each of the 64 */
    private static void shakeOfEveryDrawn() {
        ArrowField x = shaking(0, 10);
        int drawn = 0;
        for (int shot = 0; shot < 64; shot++) {
            x.shoot(0, 0);
            drawn = (13 * drawn + 7) % 64;
            int row = drawn >> 3;
            Check.due("H by " + drawn, ((drawn & 7) * 2 - 7) * 45 / 4096.0, x.hit(0, 0, false));
            Check.due("V by " + drawn, (row * 2 - 7) * 45 / 4096.0, x.hit(0, 0, true));
            x.pull();
            x.string(0);
        }
    }

    /** "(9 - STEADY)": STEADY 9 has no SHAKE, 0 the most */
    private static void noShakeOfTheSteadiest() {
        double[] dueOfH = {630 / 4096.0, 560 / 4096.0, 70 / 4096.0, 0.0};
        int[] steady = {0, 1, 8, 9};
        for (int i = 0; i < steady.length; i++) {
            ArrowField x = shaking(steady[i], 20);
            double v = x.wouldHit(0, 5, true);
            x.shoot(0, 0);
            Check.due("H of STEADY " + steady[i], dueOfH[i], x.hit(0, 0, false));
            Check.due("V of STEADY " + steady[i], v - dueOfH[i], x.hit(0, 0, true));
        }
    }

    /** "* DISTANCE / 4096.0": from 10 and from 90 */
    private static void shakeGrowsWithTheDistance() {
        for (int distance = 10; distance <= 90; distance += 80) {
            ArrowField x = shaking(0, distance);
            x.shoot(0, 0);
            Check.due("H from " + distance, 31.5 * distance / 4096.0, x.hit(0, 0, false));
        }
    }

    /** "the greatest s of 10 to 1": of each ring one hits, though the wider ones hold it too */
    private static void scoreIsTheGreatest() {
        ArrowField x = Fields.slow(1, 8);
        for (int sight = 5; sight <= 60; sight++) {
            int v = 3 * (sight - 5);
            int due = 0;
            for (int s = 1; s <= 10; s++) {
                due = v <= 16 * (11 - s) + 1 ? s : due;
            }
            x.tune(0, sight, 0);
            Check.due("wouldScore(0) by " + sight, due, x.wouldScore(0));
            Check.due("shoot(0, 0) by " + sight, due, x.shoot(0, 0));
            x.string(0);
            x.pull();
        }
    }

    /** "H * H + V * V no more than R * R": as much is enough. FACE 1 has R = (2 * (11 - s) + 1) / 128. */
    private static void scoreJustOnARing() {
        int[][] rings = {{6, 10}, {8, 7}, {10, 4}, {12, 1}, {4, 10}, {2, 7}, {0, 4}};
        for (int[] ring : rings) {
            ArrowField x = Fields.slow(1, 1);
            x.tune(0, ring[0], 0);
            Check.due("wouldScore(0) by " + ring[0], ring[1], x.wouldScore(0));
            Check.due("shoot(0, 0) by " + ring[0], ring[1], x.shoot(0, 0));
        }
    }

    /** "no more than R * R": with H 3 / 4096 off it is a little more. */
    private static void scoreJustBesideARing() {
        int[][] rings = {{6, 9}, {8, 6}, {10, 3}, {12, 0}, {4, 9}, {2, 6}, {0, 3}};
        for (int side = -1; side <= 1; side += 2) {
            for (int[] ring : rings) {
                ArrowField x = Fields.slow(1, 1);
                x.quiver(Fields.SLOW_MASS, Fields.SLOW_SPINE + side);
                x.give(0, 1);
                x.tune(0, ring[0], 0);
                Check.due("wouldScore(0) by " + ring[0], ring[1], x.wouldScore(0));
                Check.due("shoot(0, 0) by " + ring[0], ring[1], x.shoot(0, 0));
                Check.due("H of it", side * 3 / 4096.0, x.hit(1, 0, false));
            }
        }
    }

    /** "H * H + V * V": each alone would be worth 10, both together 9. FACE 1 has R = 3 / 128 with 10. */
    private static void scoreByBothHAndV() {
        ArrowField x = Fields.slow(1, 1);
        x.wind(8);
        x.tune(0, 5, 0);
        Check.due("wouldScore(0) with H 3 / 128 alone", 10, x.wouldScore(0));
        x.tune(0, 6, 0);
        Check.due("H", 3 / 128.0, x.wouldHit(0, 6, false));
        Check.due("V", 3 / 128.0, x.wouldHit(0, 6, true));
        Check.due("wouldScore(0) with both", 9, x.wouldScore(0));
        x.wind(0);
        Check.due("wouldScore(0) with V 3 / 128 alone", 10, x.wouldScore(0));
    }

    /** "0 without one: then the ARROW is AWAY, otherwise STUCK" */
    private static void stuckWith1AwayWith0() {
        ArrowField x = Fields.slow(1, 1);
        x.tune(0, 12, 0);
        Check.due("shoot(0, 0)", 1, x.shoot(0, 0));
        Check.due("set of stuck ones", 1, x.ofQuiver(0, 4));
        Check.due("set of those away", 0, x.ofQuiver(0, 5));
        x.string(0);
        x.tune(0, 13, 0);
        Check.due("shoot(0, 1)", 0, x.shoot(0, 1));
        Check.due("set of stuck ones", 1, x.ofQuiver(0, 4));
        Check.due("set of those away", 2, x.ofQuiver(0, 5));
        Check.due("many(5)", 1, x.many(5));
    }

    /** Splits by a SHOT of one QUIVER behind one of another; both fly straight by these SIGHTS from 10. */
    private static int splits(int[] first, int[] second, boolean isNearer) {
        ArrowField x = new ArrowField();
        for (int[] bow : new int[][] {first, second}) {
            x.quiver(bow[1], Fields.straightSpine(bow[0]));
            int archer = x.archer(bow[0], Fields.NO_SHAKE);
            x.give(archer, archer);
            x.tune(archer, bow[2], 0);
        }
        x.field(10, 0, 8);
        x.shoot(0, 0);
        x.shoot(1, 0);
        double apart = x.hit(1, 0, true) - x.hit(0, 0, true);
        Check.due("V is " + apart + " apart, which is less", isNearer, -NEAR < apart && apart < NEAR);
        Check.due("but hardly", true, Math.abs(Math.abs(apart) - NEAR) < 1e-6);
        Check.due("H is the same", 0.0, x.hit(1, 0, false) - x.hit(0, 0, false));
        return x.many(7);
    }

    /** "H is less than 0.015625 from where that is": 32 / 2048 is as much, on either side; 31 / 2048 is less */
    private static void splitOnlyIfNearerByH() {
        int[] spines = {460, 492, 428, 491, 429};
        int[] due = {1, 0, 0, 1, 1};
        for (int i = 0; i < spines.length; i++) {
            ArrowField x = Fields.fast(8, 460, spines[i]);
            x.shoot(0, 0);
            x.give(0, 1);
            x.shoot(0, 0);
            Check.due("H apart", (spines[i] - 460) / 2048.0, x.hit(1, 0, false) - x.hit(0, 0, false));
            Check.due("splits by SPINE " + spines[i], due[i], x.many(7));
        }
    }

    /** "and V too": as much is too much, on either side, and a little less is enough */
    private static void splitOnlyIfNearerByV() {
        for (int nock = 0; nock <= 4; nock++) {
            ArrowField x = Fields.fast(8, 460);
            x.shoot(0, 0);
            x.tune(0, 0, nock);
            x.shoot(0, 1);
            Check.due("V apart", (nock - 2) / 64.0, x.hit(0, 1, true) - x.hit(0, 0, true));
            Check.due("splits by NOCK " + nock, nock == 2 ? 1 : 0, x.many(7));
        }
        Check.due("a little less, above", 1, splits(NEARLY_LESS[0], NEARLY_LESS[1], true));
        Check.due("a little less, below", 1, splits(NEARLY_LESS[1], NEARLY_LESS[0], true));
        Check.due("a little more, above", 0, splits(NEARLY_MORE[0], NEARLY_MORE[1], false));
        Check.due("a little more, below", 0, splits(NEARLY_MORE[1], NEARLY_MORE[0], false));
    }

    /** "H is less .., and V too" */
    private static void splitNeedsHAndV() {
        ArrowField x = Fields.fast(8, 460, 500);
        x.shoot(0, 0);
        x.give(0, 1);
        x.shoot(0, 0);
        Check.due("splits by V alone", 0, x.many(7));
        x.tune(0, 0, 6);
        x.shoot(0, 1);
        Check.due("splits by H alone", 0, x.many(7));
        Check.due("all three are stuck", 3, x.many(5));
    }

    /** "of a SHOT, SHAKE is added": where it hits with SHAKE is what counts, not where it would hit without. */
    private static void splitIsByTheShakenHit() {
        ArrowField x = shakingBesideSteady();
        x.shoot(1, 0);
        x.shoot(0, 0);
        Check.due("H of the shaken one", -135 / 4096.0, x.hit(0, 0, false));
        Check.due("splits of one that SHAKE leads away from", 0, x.many(7));
        ArrowField y = shakingBesideSteady();
        y.wind(-10);
        y.shoot(1, 0);
        Check.due("H of the first", -120 / 4096.0, y.hit(1, 0, false));
        y.wind(0);
        y.shoot(0, 0);
        Check.due("splits of one that SHAKE leads to", 1, y.many(7));
    }

    /** "Before that (also with a SCORE of 0)" */
    private static void splitAlsoWithAScoreOf0() {
        ArrowField x = Fields.fast(1, 795, 800);
        Check.due("shoot(0, 0) just inside", 1, x.shoot(0, 0));
        x.give(0, 1);
        Check.due("shoot(0, 0) just outside", 0, x.shoot(0, 0));
        Check.due("splits", 1, x.many(7));
        Check.due("the one inside is broken", 1, x.ofQuiver(0, 6));
        Check.due("the one outside is away", 1, x.ofQuiver(1, 5));
        Check.due("many(5)", 0, x.many(5));
    }

    /** "an ARROW (of any QUIVER)": of somebody else's, and of one that nobody has */
    private static void splitOfAnyQuiver() {
        ArrowField x = Fields.slow(6, 4);
        for (int archer = 0; archer < 6; archer++) {
            x.tune(archer, 5, 0);
        }
        x.shoot(5, 3);
        x.shoot(0, 7);
        Check.due("somebody else's is broken", 8, x.ofQuiver(5, 6));
        x.give(0, 1);
        Check.due("who has quiver 0", -1, x.ofQuiver(0, 2));
        x.shoot(0, 0);
        Check.due("nobody's is broken", 1 << 7, x.ofQuiver(0, 6));
        x.shoot(0, 1);
        Check.due("the own one is broken", 1, x.ofQuiver(1, 6));
        Check.due("splits", 3, x.many(7));
    }

    /** "if an ARROW .. is STUCK": not where one was before a PULL, nor one that is AWAY, nor one BROKEN already */
    private static void splitOfStuckOnesAlone() {
        ArrowField pulled = Fields.slow(1, 4);
        pulled.tune(0, 5, 0);
        pulled.shoot(0, 0);
        pulled.pull();
        pulled.shoot(0, 1);
        Check.due("splits of one that is HERE", 0, pulled.many(7));
        ArrowField away = Fields.fast(1, 800);
        away.shoot(0, 0);
        away.shoot(0, 1);
        Check.due("splits of one that is AWAY", 0, away.many(7));
        ArrowField broken = Fields.fast(1, 795, 800);
        broken.shoot(0, 0);
        broken.give(0, 1);
        broken.shoot(0, 0);
        Check.due("splits of one that is STUCK", 1, broken.many(7));
        broken.shoot(0, 1);
        Check.due("splits of one that is BROKEN", 1, broken.many(7));
    }

    /** "Before that": an ARROW that hits where it hit last does not split itself */
    private static void splitIsNotOfItself() {
        ArrowField x = Fields.fast(8, 460);
        for (int shot = 0; shot < 3; shot++) {
            x.shoot(0, 0);
            Check.due("set of stuck ones", 1, x.ofQuiver(0, 4));
            x.pull();
        }
        Check.due("splits", 0, x.many(7));
    }

    /** "(of several that with the smallest QUIVER": whatever their numbers and turns are; one alone is SPLIT */
    private static void smallestQuiverOfSeveral() {
        ArrowField x = Fields.fast(8, 460, 492, 476);
        x.give(0, 1);
        x.shoot(0, 0);
        x.give(0, 0);
        x.shoot(0, 11);
        Check.due("they are 0.015625 apart", 0, x.many(7));
        x.give(0, 2);
        x.shoot(0, 5);
        Check.due("splits", 1, x.many(7));
        Check.due("broken of quiver 0", 1 << 11, x.ofQuiver(0, 6));
        Check.due("stuck of quiver 1", 1, x.ofQuiver(1, 4));
        Check.due("stuck of quiver 2", 1 << 5, x.ofQuiver(2, 4));
    }

    /** "of several the smallest number)": whichever was SHOT first or is nearer; one alone is SPLIT */
    private static void smallestNumberOfSeveral() {
        ArrowField x = Fields.fast(8, 460);
        x.shoot(0, 9);
        x.wind(16);
        x.shoot(0, 4);
        Check.due("they are 0.015625 apart", 0, x.many(7));
        x.wind(1);
        x.shoot(0, 10);
        Check.due("splits", 1, x.many(7));
        Check.due("the smallest number is broken", 1 << 4, x.ofQuiver(0, 6));
        Check.due("the nearer one is stuck", 1 << 9 | 1 << 10, x.ofQuiver(0, 4));
    }

    /** "IndexOutOfBoundsException if there is no such ARCHER": of shoot() */
    private static void shootOfNoSuchArcher() {
        ArrowField x = Fields.slow(2, 4);
        Check.dueIndexBeside("shoot(.., 0)", x, 2, archer -> x.shoot(archer, 0));
    }

    /** "or arrow is not 0 to 11": of shoot() */
    private static void shootOfNoSuchArrow() {
        ArrowField x = Fields.slow(2, 8);
        Check.dueIndexBeside("shoot(0, ..)", x, 12, arrow -> x.shoot(0, arrow));
        x.shoot(0, 0);
        x.shoot(0, 11);
        Check.due("set of stuck ones", 1 | 1 << 11, x.ofQuiver(0, 4) | x.ofQuiver(0, 5) | x.ofQuiver(0, 6));
    }

    /** "IllegalStateException if the field is CLOSED" */
    private static void shootWhileClosed() {
        ArrowField x = Fields.slow(2, 4);
        x.close(true);
        Check.dueState("shoot(0, 0)", x, () -> x.shoot(0, 0));
        Check.dueState("shoot(1, 11)", x, () -> x.shoot(1, 11));
        x.close(false);
        x.shoot(0, 0);
        Check.due("many(6)", 1, x.many(6));
    }

    /** "the ARCHER has no QUIVER": never had one, or has it no more */
    private static void shootWithoutAQuiver() {
        ArrowField x = Fields.slow(1, 4);
        x.archer(40, 5);
        Check.dueState("shoot(1, 0) of one who never had one", x, () -> x.shoot(1, 0));
        x.give(1, 0);
        Check.dueState("shoot(0, 0) of one who has it no more", x, () -> x.shoot(0, 0));
        x.shoot(1, 0);
        Check.due("many(6)", 1, x.many(6));
    }

    /** "the ARROW is not HERE": STUCK, AWAY or BROKEN; and HERE again behind a PULL or as it is MENDED */
    private static void shootOfAnArrowNotHere() {
        ArrowField x = Fields.slow(1, 4);
        x.tune(0, 5, 0);
        x.shoot(0, 0);
        Check.dueState("shoot(0, 0) that is STUCK", x, () -> x.shoot(0, 0));
        x.shoot(0, 1);
        Check.dueState("shoot(0, 0) that is BROKEN", x, () -> x.shoot(0, 0));
        x.tune(0, 127, 0);
        x.shoot(0, 2);
        Check.dueState("shoot(0, 2) that is AWAY", x, () -> x.shoot(0, 2));
        x.pull();
        Check.dueState("shoot(0, 0) that is BROKEN behind a pull", x, () -> x.shoot(0, 0));
        Check.due("shoot(0, 2) that is HERE again", 0, x.shoot(0, 2));
        x.mend(0);
        Check.due("shoot(0, 0) that is MENDED", 0, x.shoot(0, 0));
    }

    /** "or a MATCH is on and it is not the turn of that one" */
    private static void shootOutOfTurn() {
        ArrowField x = Fields.slow(3, 4);
        x.match(1, 2);
        Check.dueState("shoot(2, 0) of the other one", x, () -> x.shoot(2, 0));
        Check.dueState("shoot(0, 0) of one who is not in it", x, () -> x.shoot(0, 0));
        x.shoot(1, 0);
        Check.dueState("shoot(1, 1) once more", x, () -> x.shoot(1, 1));
        x.shoot(2, 0);
        x.breakOff();
        x.shoot(0, 0);
        x.shoot(0, 1);
        Check.due("many(6)", 4, x.many(6));
    }

    /** "If several exceptions apply, the one that is named first is thrown": of shoot() */
    private static void shootNamesIndexFirst() {
        ArrowField x = Fields.slow(2, 4);
        x.archer(40, 5);
        x.match(0, 1);
        x.close(true);
        Check.dueIndexBeside("shoot(0, ..) while closed", x, 12, arrow -> x.shoot(0, arrow));
        Check.dueIndexBeside("shoot(.., 0) while closed", x, 3, archer -> x.shoot(archer, 0));
        x.close(false);
        Check.dueIndexBeside("shoot(1, ..) out of turn", x, 12, arrow -> x.shoot(1, arrow));
        Check.dueIndexBeside("shoot(2, ..) without a quiver", x, 12, arrow -> x.shoot(2, arrow));
    }

    /** "IndexOutOfBoundsException if there is no such QUIVER, or arrow is not 0 to 11": of hit() */
    private static void hitOfNoSuchArrow() {
        ArrowField x = Fields.slow(2, 4);
        for (boolean isV : new boolean[] {false, true}) {
            Check.dueIndexBeside("hit(.., 0)", x, 2, quiver -> x.hit(quiver, 0, isV));
            Check.dueIndexBeside("hit(0, ..)", x, 12, arrow -> x.hit(0, arrow, isV));
        }
    }

    /** "0.0, if it was never SHOT" */
    private static void hitOfOneNeverShot() {
        ArrowField x = Fields.slow(1, 4);
        x.tune(0, 50, 0);
        x.shoot(0, 5);
        for (int arrow = 0; arrow < 12; arrow++) {
            Check.due("H of " + arrow, 0.0, x.hit(0, arrow, false));
            Check.due("V of " + arrow, arrow == 5 ? 135 / 128.0 : 0.0, x.hit(0, arrow, true));
        }
    }

    /** "Returns where it hit last": also as it is AWAY, BROKEN, pulled or MENDED */
    private static void hitIsTheLastOne() {
        ArrowField x = Fields.slow(1, 4);
        x.wind(4);
        x.tune(0, 127, 0);
        x.shoot(0, 0);
        Check.due("V of one AWAY", 366 / 128.0, x.hit(0, 0, true));
        x.pull();
        Check.due("V of one pulled", 366 / 128.0, x.hit(0, 0, true));
        x.string(0);
        x.tune(0, 6, 0);
        x.shoot(0, 0);
        Check.due("V of one STUCK", 3 / 128.0, x.hit(0, 0, true));
        Check.due("H of one STUCK", 12 / 1024.0, x.hit(0, 0, false));
        x.wind(0);
        x.shoot(0, 1);
        Check.due("it is BROKEN", 1, x.ofQuiver(0, 6));
        Check.due("V of one BROKEN", 3 / 128.0, x.hit(0, 0, true));
        x.mend(0);
        Check.due("H of one MENDED", 12 / 1024.0, x.hit(0, 0, false));
    }

    /** "IllegalArgumentException if sight is not 0 to 127": of wouldHit() */
    private static void wouldHitFrom0To127() {
        ArrowField x = Fields.slow(1, 4);
        x.tune(0, 50, 0);
        for (boolean isV : new boolean[] {false, true}) {
            Check.dueArgumentBeside("wouldHit(0, ..)", x, 0, 127, sight -> x.wouldHit(0, sight, isV));
        }
        Check.due("V by 0", -15 / 128.0, x.wouldHit(0, 0, true));
        Check.due("V by 127", 366 / 128.0, x.wouldHit(0, 127, true));
    }

    /** "if there is no such ARCHER"; "if that one has no QUIVER"; the one named first is thrown: of wouldHit() */
    private static void wouldHitRefused() {
        ArrowField x = Fields.slow(1, 4);
        x.archer(40, 5);
        Check.dueIndexBeside("wouldHit(.., 0)", x, 2, archer -> x.wouldHit(archer, 0, true));
        Check.dueIndexBeside("wouldHit(.., 128)", x, 2, archer -> x.wouldHit(archer, 128, true));
        Check.dueArgumentBeside("wouldHit(1, ..)", x, 0, 127, sight -> x.wouldHit(1, sight, false));
        Check.dueState("wouldHit(1, 0, true)", x, () -> x.wouldHit(1, 0, true));
        Check.dueState("wouldHit(1, 127, false)", x, () -> x.wouldHit(1, 127, false));
    }

    /** "Returns the SIGHT with which V would be nearest to 0.0": as all the 128 tell that are asked one by one */
    private static void markIsTheNearest() {
        int[][] fields = {{48, 250, 0, 10}, {20, 600, 3, 60}, {60, 200, -8, 90}, {35, 411, 5, 33}, {56, 255, 0, 18}};
        for (int[] field : fields) {
            ArrowField x = Fields.straight(field[0], field[1], field[2], field[3]);
            int due = 0;
            double nearest = Math.abs(x.wouldHit(0, 0, true));
            for (int sight = 1; sight <= 127; sight++) {
                double now = Math.abs(x.wouldHit(0, sight, true));
                if (now < nearest) {
                    due = sight;
                    nearest = now;
                }
            }
            Check.due("mark(0)", due, x.mark(0));
        }
    }

    /** "of several the smallest": V is 1 / 64 below by 7, and above by 8 */
    private static void markIsTheSmallestOfSeveral() {
        ArrowField x = Fields.slow(1, 4);
        x.field(14, 0, 4);
        Check.due("V by 7", -1 / 64.0, x.wouldHit(0, 7, true));
        Check.due("V by 8", 1 / 64.0, x.wouldHit(0, 8, true));
        Check.due("mark(0)", 7, x.mark(0));
        x.tune(0, 0, -7);
        Check.due("mark(0) with NOCK -7", 14, x.mark(0));
    }

    /** "the SIGHT" (0 to 127): 0 as V is above 0.0 by all of them, 127 as it is below by all */
    private static void markAtItsEdges() {
        Check.due("mark(0), all above", 0, Fields.straight(48, 250, 8, 10).mark(0));
        Check.due("mark(0), all below", 127, Fields.straight(20, 600, 0, 90).mark(0));
        ArrowField just = Fields.straight(48, 250, 5, 10);
        Check.due("V by 0", 0.0, just.wouldHit(0, 0, true));
        Check.due("mark(0), just by 0", 0, just.mark(0));
        ArrowField one = Fields.straight(48, 250, 4, 10);
        Check.due("mark(0), just by 1", 1, one.mark(0));
    }

    /** "if there is no such ARCHER"; "if that one has no QUIVER": of mark() */
    private static void markRefused() {
        ArrowField x = Fields.slow(1, 4);
        x.archer(40, 5);
        Check.dueIndexBeside("mark()", x, 2, archer -> x.mark(archer));
        Check.dueState("mark(1)", x, () -> x.mark(1));
    }

    /** "by which H would be nearest to 0.0": on the left as on the right, and by little */
    private static void bestIsTheNearestOnEitherSide() {
        Check.due("best(0), the last one straight", 2, Fields.fast(4, 459, 461, 460).best(0));
        Check.due("best(0), left is nearer", 1, Fields.fast(4, 470, 451, 472).best(0));
        Check.due("best(0), right is nearer", 2, Fields.fast(4, 450, 300, 469).best(0));
        ArrowField windy = Fields.fast(4, 460, 428, 427);
        Check.due("best(0) without wind", 0, windy.best(0));
        windy.wind(16);
        Check.due("best(0) with wind", 1, windy.best(0));
    }

    /** "of several the smallest number": the same H, or as far on the other side; though a later one is the own one */
    private static void bestIsTheSmallestOfSeveral() {
        ArrowField same = Fields.fast(4, 500, 470, 470, 470);
        Check.due("best(0) of the same", 1, same.best(0));
        same.give(0, 3);
        Check.due("best(0), the last one is the own one", 1, same.best(0));
        Check.due("best(0), left and right", 1, Fields.fast(4, 500, 440, 480).best(0));
        Check.due("best(0), right and left", 1, Fields.fast(4, 500, 480, 440).best(0));
    }

    /** "the QUIVER (nobody's, or that one's)" */
    private static void bestIsNobodysOrTheOwn() {
        ArrowField x = Fields.fast(4, 480, 470, 460);
        x.archer(Fields.FAST_DRAW, 5);
        Check.due("best(0), nobody's", 2, x.best(0));
        Check.due("best(1) without a quiver", 2, x.best(1));
        x.give(1, 2);
        Check.due("best(0), somebody else has the best", 1, x.best(0));
        Check.due("best(1), the own one", 2, x.best(1));
        x.give(1, 1);
        Check.due("best(0), it is nobody's again", 2, x.best(0));
        x.give(1, 2);
        x.archer(Fields.FAST_DRAW, 5);
        x.give(2, 1);
        Check.due("best(0), only the own one", 0, x.best(0));
    }

    /** "NONE without one."; "IndexOutOfBoundsException if there is no such ARCHER": of best() */
    private static void bestIsNone() {
        ArrowField x = new ArrowField();
        x.archer(40, 5);
        Check.due("best(0) without quivers", -1, x.best(0));
        x.quiver(400, 740);
        x.archer(40, 5);
        x.give(0, 0);
        Check.due("best(1), somebody else has the only one", -1, x.best(1));
        Check.due("best(0), who has it", 0, x.best(0));
        Check.dueIndexBeside("best()", x, 2, archer -> x.best(archer));
    }

    /** "from which V would be no less than 0.0": just 0.0 counts, and so does a little more, but not a little less */
    private static void reachIsNoLessThan0() {
        dueReach(32, 400, 4, 53, 0.0);
        dueReach(20, 435, -5, 16, 0.0);
        dueReach(29, 464, -7, 30, 1e-4);
        dueReach(29, 464, 8, 39, 1e-4);
        dueReach(27, 327, -6, 40, -1e-4);
        dueReach(27, 327, 4, 47, -1e-4);
    }

    /** At the edge V is just 0.0, or less than this off it: above from there on, or below from one more on. */
    private static void dueReach(int draw, int mass, int nock, int reach, double off) {
        ArrowField x = Fields.straight(draw, mass, nock, reach);
        Check.due("reach(0)", reach, x.reach(0));
        Check.due("V from there is no less than 0.0", true, x.wouldHit(0, 127, true) >= 0.0);
        if (off >= 0.0) {
            Check.due("V from there is hardly more", true, x.wouldHit(0, 127, true) <= off);
        }
        x.field(reach + 1, 0, 8);
        Check.due("V from one more is less than 0.0", true, x.wouldHit(0, 127, true) < 0.0);
        if (off < 0.0) {
            Check.due("V from one more is hardly less", true, x.wouldHit(0, 127, true) > off);
        }
    }

    /** "the greatest DISTANCE of 10 to 90"; "NONE without one." */
    private static void reachFrom10To90() {
        Check.due("reach(0) of a fast bow", 90, Fields.straight(60, 200, 0, 10).reach(0));
        Check.due("reach(0) of a slow bow", 10, Fields.straight(20, 600, -3, 90).reach(0));
        Check.due("reach(0) of none", -1, Fields.straight(20, 600, -5, 10).reach(0));
        ArrowField x = Fields.straight(20, 600, 8, 10);
        int before = x.reach(0);
        x.tune(0, 127, 8);
        Check.due("reach(0) by the SIGHT 127, whatever there is", before, x.reach(0));
        x.field(90, 16, 1);
        Check.due("reach(0), whatever the DISTANCE is", before, x.reach(0));
    }

    /** "if there is no such ARCHER"; "if that one has no QUIVER": of reach() */
    private static void reachRefused() {
        ArrowField x = Fields.slow(1, 4);
        x.archer(40, 5);
        Check.dueIndexBeside("reach()", x, 2, archer -> x.reach(archer));
        Check.dueState("reach(1)", x, () -> x.reach(1));
    }

    /** "Returns the SCORE of an ARROW": from 0 to 10 */
    private static void wouldScoreFrom0To10() {
        ArrowField x = Fields.slow(1, 1);
        int[] due = {10, 10, 8, 7, 5, 4, 2, 1, 0};
        for (int i = 0; i < due.length; i++) {
            x.tune(0, 5 + i, 0);
            Check.due("wouldScore(0) by " + (5 + i), due[i], x.wouldScore(0));
        }
    }

    /** "as all is now (without SHAKE)": though the field is CLOSED, no ARROW is HERE, and it is another one's turn */
    private static void wouldScoreIsAsAllIsNow() {
        ArrowField x = Fields.slow(2, 1);
        for (int arrow = 0; arrow < 12; arrow++) {
            x.shoot(1, arrow);
        }
        Check.due("set of those HERE", 0, x.ofQuiver(1, 3));
        x.match(0, 1);
        x.close(true);
        x.tune(1, 5, 0);
        Check.due("wouldScore(1) with CREEP", 10, x.wouldScore(1));
        x.tune(1, 9, 0);
        Check.due("wouldScore(1) by 9 with CREEP", 6, x.wouldScore(1));
        x.string(1);
        Check.due("wouldScore(1) by 9 with a new string", 5, x.wouldScore(1));
        x.wind(16);
        x.tune(1, 5, 0);
        Check.due("wouldScore(1) with wind", 8, x.wouldScore(1));
        ArrowField shaky = shaking(0, 10);
        shaky.field(10, 0, 1);
        Check.due("wouldScore(0) without shake", 10, shaky.wouldScore(0));
        Check.due("shoot(0, 0) with shake", 4, shaky.shoot(0, 0));
    }

    /** "if there is no such ARCHER"; "if that one has no QUIVER": of wouldScore() */
    private static void wouldScoreRefused() {
        ArrowField x = Fields.slow(1, 4);
        x.archer(40, 5);
        Check.dueIndexBeside("wouldScore()", x, 2, archer -> x.wouldScore(archer));
        Check.dueState("wouldScore(1)", x, () -> x.wouldScore(1));
    }

    /** "what would be (nothing is changed; without SHAKE)": two go the same way, and one of them is asked all along */
    private static void askingChangesNothing() {
        ArrowField asked = shaking(2, 10);
        ArrowField left = shaking(2, 10);
        for (int arrow = 0; arrow < 12; arrow++) {
            asked.wouldHit(0, 10 * arrow, true);
            asked.wouldHit(0, 127, false);
            asked.mark(0);
            asked.best(0);
            asked.reach(0);
            asked.wouldScore(0);
            Check.due("digest()", left.digest(), asked.digest());
            Check.due("shoot(0, " + arrow + ")", left.shoot(0, arrow), asked.shoot(0, arrow));
            Check.due("H", left.hit(0, arrow, false), asked.hit(0, arrow, false));
            Check.due("V", left.hit(0, arrow, true), asked.hit(0, arrow, true));
        }
        Check.due("string(0)", left.string(0), asked.string(0));
    }
}
