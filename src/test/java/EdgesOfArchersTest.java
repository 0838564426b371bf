/**
 * Section 1 of the document and promises 1 to 8, 16 to 18 and 20: each sentence that names an edge has a test of its
 * own, which quotes it.
 */
public final class EdgesOfArchersTest {
    public static void main(String[] args) {
        newObject();
        sixArchers();
        drawFrom20To60();
        steadyFrom0To9();
        archerNamesArgumentFirst();
        archerAtFirst();
        sixQuivers();
        massFrom200To600();
        spineFrom300To1100();
        quiverNamesArgumentFirst();
        twelveArrowsHere();
        nobodyHasWhatSomebodyElseHas();
        whoHadItHasNone();
        quiverOfBeforeIsNobodys();
        ownQuiverAgain();
        giveToNoSuchArcher();
        giveOfNoSuchQuiver();
        giveInAMatch();
        sightFrom0To127();
        nockFromMinus8To8();
        tuneNamesIndexFirst();
        speedAtItsEdges();
        creepIsMoreBehindEachShot();
        creepAtTheMost();
        newStringMakesIt0();
        stringOfNoSuchArcher();
        fieldAtFirst();
        distanceFrom10To90();
        windFromMinus16To16();
        faceFrom1To8();
        fieldWhileAnArrowIsStuck();
        fieldWhileNoneIsStuck();
        fieldNamesArgumentFirst();
        windAlone();
        ofArcherFrom0To10();
        speedWithoutAQuiver();
        ofQuiverFrom0To6();
        setsEmptyAndFull();
        manyFrom0To11();
        fiveHundredAndTwelveCalls();
        Check.end();
    }

    /** "Creates a field without ARCHERS." */
    private static void newObject() {
        ArrowField x = new ArrowField();
        Check.due("many(0)", 0, x.many(0));
        Check.dueIndex("give(0, 0)", x, () -> x.give(0, 0));
        Check.dueIndex("tune(0, 0, 0)", x, () -> x.tune(0, 0, 0));
        Check.dueIndex("string(0)", x, () -> x.string(0));
        Check.dueIndex("shoot(0, 0)", x, () -> x.shoot(0, 0));
        Check.dueIndex("match(0, 0)", x, () -> x.match(0, 0));
        Check.dueIndex("ofArcher(0, 0)", x, () -> x.ofArcher(0, 0));
        Check.dueIndex("speed(0)", x, () -> x.speed(0));
        Check.dueIndex("wouldHit(0, 0, true)", x, () -> x.wouldHit(0, 0, true));
        Check.dueIndex("mark(0)", x, () -> x.mark(0));
        Check.dueIndex("best(0)", x, () -> x.best(0));
        Check.dueIndex("reach(0)", x, () -> x.reach(0));
        Check.dueIndex("wouldScore(0)", x, () -> x.wouldScore(0));
        Check.dueIndex("mend(0)", x, () -> x.mend(0));
        Check.dueIndex("ofQuiver(0, 0)", x, () -> x.ofQuiver(0, 0));
        Check.dueIndex("hit(0, 0, true)", x, () -> x.hit(0, 0, true));
        Check.dueState("breakOff()", x, () -> x.breakOff());
    }

    /** "ARCHERS: at most 6, numbered from 0"; "IllegalStateException if there are 6" */
    private static void sixArchers() {
        ArrowField x = new ArrowField();
        for (int i = 0; i < 6; i++) {
            int next = i;
            Check.dueIndex("ofArcher() of one not yet told", x, () -> x.ofArcher(next, 0));
            Check.due("archer()", i, x.archer(20 + i, i));
            Check.due("many(0)", i + 1, x.many(0));
        }
        Check.dueState("a seventh", x, () -> x.archer(40, 5));
        Check.dueState("a seventh again", x, () -> x.archer(20, 0));
        for (int i = 0; i < 6; i++) {
            Check.due("DRAW of " + i, 20 + i, x.ofArcher(i, 0));
            Check.due("STEADY of " + i, i, x.ofArcher(i, 1));
        }
        Check.dueIndex("ofArcher(6, 0)", x, () -> x.ofArcher(6, 0));
    }

    /** "a DRAW (20 to 60)" */
    private static void drawFrom20To60() {
        ArrowField x = new ArrowField();
        Check.dueArgumentBeside("archer() with a DRAW", x, 20, 60, draw -> x.archer(draw, 5));
        Check.due("DRAW 20", 20, x.ofArcher(x.archer(20, 5), 0));
        Check.due("DRAW 60", 60, x.ofArcher(x.archer(60, 5), 0));
    }

    /** "STEADY (0 to 9)" */
    private static void steadyFrom0To9() {
        ArrowField x = new ArrowField();
        Check.dueArgumentBeside("archer() with STEADY", x, 0, 9, steady -> x.archer(40, steady));
        Check.due("STEADY 0", 0, x.ofArcher(x.archer(40, 0), 1));
        Check.due("STEADY 9", 9, x.ofArcher(x.archer(40, 9), 1));
    }

    /** "If several exceptions apply, the one that is named first is thrown": of archer() */
    private static void archerNamesArgumentFirst() {
        ArrowField x = Fields.slow(6, 4);
        Check.dueArgumentBeside("a seventh with a DRAW", x, 20, 60, draw -> x.archer(draw, 5));
        Check.dueArgumentBeside("a seventh with STEADY", x, 0, 9, steady -> x.archer(40, steady));
    }

    /** SIGHT "0 at first", NOCK "0 at first", CREEP "0f at first", "a QUIVER (NONE at first)"; "NONE is -1" */
    private static void archerAtFirst() {
        ArrowField x = new ArrowField();
        x.archer(33, 4);
        int[] due = {33, 4, 0, 0, -1, 0, 0, 0, 0, 0, 0};
        for (int what = 0; what < due.length; what++) {
            Check.due("ofArcher(0, " + what + ") at first", due[what], x.ofArcher(0, what));
        }
        Check.due("CREEP at first", 0.0, x.string(0));
    }

    /** "QUIVERS: at most 6, numbered from 0"; "IllegalStateException if there are 6" */
    private static void sixQuivers() {
        ArrowField x = new ArrowField();
        for (int i = 0; i < 6; i++) {
            int next = i;
            Check.dueIndex("ofQuiver() of one not yet told", x, () -> x.ofQuiver(next, 0));
            Check.due("quiver()", i, x.quiver(200 + i, 300 + i));
            Check.due("many(1)", i + 1, x.many(1));
        }
        Check.dueState("a seventh", x, () -> x.quiver(400, 700));
        Check.dueState("a seventh again", x, () -> x.quiver(200, 300));
        for (int i = 0; i < 6; i++) {
            Check.due("MASS of " + i, 200 + i, x.ofQuiver(i, 0));
            Check.due("SPINE of " + i, 300 + i, x.ofQuiver(i, 1));
        }
        Check.dueIndex("ofQuiver(6, 0)", x, () -> x.ofQuiver(6, 0));
    }

    /** "a MASS (200 to 600)" */
    private static void massFrom200To600() {
        ArrowField x = new ArrowField();
        Check.dueArgumentBeside("quiver() with a MASS", x, 200, 600, mass -> x.quiver(mass, 700));
        Check.due("MASS 200", 200, x.ofQuiver(x.quiver(200, 700), 0));
        Check.due("MASS 600", 600, x.ofQuiver(x.quiver(600, 700), 0));
    }

    /** "a SPINE (300 to 1100)" */
    private static void spineFrom300To1100() {
        ArrowField x = new ArrowField();
        Check.dueArgumentBeside("quiver() with a SPINE", x, 300, 1100, spine -> x.quiver(400, spine));
        Check.due("SPINE 300", 300, x.ofQuiver(x.quiver(400, 300), 1));
        Check.due("SPINE 1100", 1100, x.ofQuiver(x.quiver(400, 1100), 1));
    }

    /** "If several exceptions apply, the one that is named first is thrown": of quiver() */
    private static void quiverNamesArgumentFirst() {
        ArrowField x = Fields.slow(6, 4);
        Check.dueArgumentBeside("a seventh with a MASS", x, 200, 600, mass -> x.quiver(mass, 700));
        Check.dueArgumentBeside("a seventh with a SPINE", x, 300, 1100, spine -> x.quiver(400, spine));
    }

    /** "12 ARROWS, numbered from 0, each HERE (at first)" */
    private static void twelveArrowsHere() {
        ArrowField x = Fields.slow(1, 8);
        Check.due("set of those HERE at first", 4095, x.ofQuiver(0, 3));
        for (int arrow = 0; arrow < 12; arrow++) {
            x.shoot(0, arrow);
            Check.due("set of those HERE behind " + arrow, 4095 - ((2 << arrow) - 1), x.ofQuiver(0, 3));
        }
        Check.dueIndexBeside("shoot() with an ARROW", x, 12, arrow -> x.shoot(0, arrow));
    }

    /** "Nobody has a QUIVER that somebody else has." */
    private static void nobodyHasWhatSomebodyElseHas() {
        ArrowField x = Fields.slow(6, 4);
        for (int given = 0; given < 20; given++) {
            int archer = given * 7 % 6;
            int quiver = given * 5 % 4;
            int had = x.ofQuiver(quiver, 2);
            Check.due("give() answers who had it", had, x.give(archer, quiver));
            Check.due("QUIVER of the taker", quiver, x.ofArcher(archer, 4));
            int[] holders = {-1, -1, -1, -1, -1, -1};
            for (int i = 0; i < 6; i++) {
                int his = x.ofArcher(i, 4);
                if (his >= 0) {
                    Check.due("somebody else who has " + his, -1, holders[his]);
                    holders[his] = i;
                }
            }
            for (int i = 0; i < 6; i++) {
                Check.due("who has " + i, holders[i], x.ofQuiver(i, 2));
            }
        }
    }

    /** "who had it, if somebody else, has none then" */
    private static void whoHadItHasNone() {
        ArrowField x = Fields.slow(3, 4);
        Check.due("give(2, 0)", 0, x.give(2, 0));
        Check.due("QUIVER of 0", -1, x.ofArcher(0, 4));
        Check.due("QUIVER of 1", 1, x.ofArcher(1, 4));
        Check.due("QUIVER of 2", 0, x.ofArcher(2, 4));
        Check.dueState("shoot(0, 0) without it", x, () -> x.shoot(0, 0));
    }

    /** "that ARCHER's one of before, if it is another one, is nobody's"; "Returns who had it (NONE)." */
    private static void quiverOfBeforeIsNobodys() {
        ArrowField x = Fields.slow(2, 4);
        x.quiver(300, 500);
        Check.due("give(0, 2) of what nobody had", -1, x.give(0, 2));
        Check.due("who has quiver 0", -1, x.ofQuiver(0, 2));
        Check.due("give(1, 0) of what is nobody's now", -1, x.give(1, 0));
        Check.due("who has quiver 1", -1, x.ofQuiver(1, 2));
        Check.due("who has quiver 0 now", 1, x.ofQuiver(0, 2));
    }

    /** "if somebody else"; "if it is another one": an ARCHER who has the QUIVER already keeps it. */
    private static void ownQuiverAgain() {
        ArrowField x = Fields.slow(2, 4);
        Check.due("give(1, 1)", 1, x.give(1, 1));
        Check.due("QUIVER of 1", 1, x.ofArcher(1, 4));
        Check.due("who has quiver 1", 1, x.ofQuiver(1, 2));
        Check.due("give(0, 0)", 0, x.give(0, 0));
        Check.due("QUIVER of 0", 0, x.ofArcher(0, 4));
    }

    /** "IndexOutOfBoundsException if there is no such ARCHER": of give() */
    private static void giveToNoSuchArcher() {
        ArrowField x = Fields.slow(2, 4);
        Check.dueIndexBeside("give(.., 0)", x, 2, archer -> x.give(archer, 0));
        Check.dueIndex("give(5, 0)", x, () -> x.give(5, 0));
    }

    /** "IndexOutOfBoundsException if there is no such .. QUIVER": of give() */
    private static void giveOfNoSuchQuiver() {
        ArrowField x = Fields.slow(2, 4);
        Check.dueIndexBeside("give(0, ..)", x, 2, quiver -> x.give(0, quiver));
        Check.dueIndex("give(0, 5)", x, () -> x.give(0, 5));
    }

    /** "IllegalStateException if a MATCH is on"; the one named first is thrown */
    private static void giveInAMatch() {
        ArrowField x = Fields.slow(3, 4);
        x.quiver(300, 500);
        x.match(0, 1);
        Check.dueState("give(2, 3), neither in the match", x, () -> x.give(2, 3));
        Check.dueState("give(0, 3)", x, () -> x.give(0, 3));
        Check.dueState("give(0, 0), the own one", x, () -> x.give(0, 0));
        Check.dueIndexBeside("give(.., 3) in a match", x, 3, archer -> x.give(archer, 3));
        Check.dueIndexBeside("give(2, ..) in a match", x, 4, quiver -> x.give(2, quiver));
        x.breakOff();
        Check.due("give(2, 3) behind the match", -1, x.give(2, 3));
    }

    /** "a SIGHT (0 to 127)" */
    private static void sightFrom0To127() {
        ArrowField x = Fields.slow(1, 4);
        Check.dueArgumentBeside("tune() with a SIGHT", x, 0, 127, sight -> x.tune(0, sight, 0));
        Check.due("tune(0, 127, 0)", 0, x.tune(0, 127, 0));
        Check.due("SIGHT 127", 127, x.ofArcher(0, 2));
        Check.due("tune(0, 0, 0)", 127, x.tune(0, 0, 0));
        Check.due("SIGHT 0", 0, x.ofArcher(0, 2));
    }

    /** "a NOCK (-8 to 8)" */
    private static void nockFromMinus8To8() {
        ArrowField x = Fields.slow(1, 4);
        Check.dueArgumentBeside("tune() with a NOCK", x, -8, 8, nock -> x.tune(0, 20, nock));
        x.tune(0, 20, -8);
        Check.due("NOCK -8", -8, x.ofArcher(0, 3));
        x.tune(0, 20, 8);
        Check.due("NOCK 8", 8, x.ofArcher(0, 3));
    }

    /** "If several exceptions apply, the one that is named first is thrown": of tune() */
    private static void tuneNamesIndexFirst() {
        ArrowField x = Fields.slow(2, 4);
        Check.dueIndexBeside("tune(.., 128, 0)", x, 2, archer -> x.tune(archer, 128, 0));
        Check.dueIndexBeside("tune(.., 0, -9)", x, 2, archer -> x.tune(archer, 0, -9));
        Check.dueIndexBeside("tune(.., 0, 0)", x, 2, archer -> x.tune(archer, 0, 0));
    }

    /** "DRAW * 600.0 / (MASS + 200.0) * (1.0 - CREEP)": the slowest and the fastest one */
    private static void speedAtItsEdges() {
        ArrowField slowest = Fields.straight(20, 600, 8, 10);
        Check.due("the slowest with a new string", 15.0, slowest.speed(0));
        Fields.wearString(slowest, 0, 40);
        Check.due("the slowest of all", 13.125, slowest.speed(0));
        ArrowField fastest = Fields.straight(60, 200, 0, 10);
        Check.due("the fastest of all", 90.0, fastest.speed(0));
        fastest.shoot(0, 0);
        Check.due("the fastest behind a shot", 89.6484375, fastest.speed(0));
    }

    /** "CREEP is 0.00390625f more behind each SHOT": whatever it hit, and of the one who SHOT alone */
    private static void creepIsMoreBehindEachShot() {
        ArrowField x = Fields.slow(2, 1);
        x.tune(0, 127, 0);
        Check.due("a shot worth 0", 0, x.shoot(0, 0));
        x.tune(0, 5, 0);
        Check.due("a shot worth 10", 10, x.shoot(0, 1));
        Check.due("speed of who shot", 63.5, x.speed(0));
        Check.due("speed of who did not", 64.0, x.speed(1));
        x.pull();
        x.mend(0);
        x.give(0, 1);
        Check.due("speed with another quiver", 63.5, x.speed(0));
        Check.due("CREEP of who shot", 0.0078125, x.string(0));
        Check.due("CREEP of who did not", 0.0, x.string(1));
    }

    /** "(0.125f at most": behind 31 SHOTS it is less, behind 32 it is that, behind more it stays */
    private static void creepAtTheMost() {
        double[] due = {0.12109375, 0.125, 0.125, 0.125};
        for (int more = 0; more < due.length; more++) {
            ArrowField x = Fields.slow(1, 4);
            Fields.wearString(x, 0, 31 + more);
            Check.due("CREEP behind " + (31 + more), due[more], x.string(0));
        }
        ArrowField worn = Fields.slow(1, 4);
        Fields.wearString(worn, 0, 200);
        Check.due("CREEP behind 200", 0.125, worn.string(0));
    }

    /** "a new string makes it 0f)": also when it is 0f */
    private static void newStringMakesIt0() {
        ArrowField x = Fields.slow(2, 4);
        Check.due("string(0) of none", 0.0, x.string(0));
        Fields.wearString(x, 0, 40);
        Fields.wearString(x, 1, 2);
        Check.due("string(0)", 0.125, x.string(0));
        Check.due("string(0) again", 0.0, x.string(0));
        Check.due("speed(0)", 64.0, x.speed(0));
        Check.due("speed(1) is as it was", 63.5, x.speed(1));
        x.shoot(0, 0);
        Check.due("string(0) behind a shot more", 0.00390625, x.string(0));
    }

    /** "IndexOutOfBoundsException if there is no such ARCHER": of string() and speed() */
    private static void stringOfNoSuchArcher() {
        ArrowField x = Fields.slow(2, 4);
        Check.dueIndexBeside("string()", x, 2, archer -> x.string(archer));
        Check.dueIndexBeside("speed()", x, 2, archer -> x.speed(archer));
    }

    /** "(18 at first)"; "(0 at first)"; "(4 at first)" */
    private static void fieldAtFirst() {
        ArrowField x = new ArrowField();
        Check.due("DISTANCE at first", 18, x.many(2));
        Check.due("WIND at first", 0, x.many(3));
        Check.due("FACE at first", 4, x.many(4));
        Check.due("field() answers the DISTANCE before", 18, x.field(20, 1, 2));
    }

    /** "The DISTANCE is 10 to 90" */
    private static void distanceFrom10To90() {
        ArrowField x = new ArrowField();
        Check.dueArgumentBeside("field() with a DISTANCE", x, 10, 90, distance -> x.field(distance, 1, 2));
        x.field(10, 0, 4);
        Check.due("DISTANCE 10", 10, x.many(2));
        Check.due("field(90, 0, 4)", 10, x.field(90, 0, 4));
        Check.due("DISTANCE 90", 90, x.many(2));
    }

    /** "the WIND -16 to 16": of field() */
    private static void windFromMinus16To16() {
        ArrowField x = new ArrowField();
        Check.dueArgumentBeside("field() with a WIND", x, -16, 16, wind -> x.field(20, wind, 2));
        x.field(20, -16, 2);
        Check.due("WIND -16", -16, x.many(3));
        x.field(20, 16, 2);
        Check.due("WIND 16", 16, x.many(3));
    }

    /** "the FACE 1 to 8" */
    private static void faceFrom1To8() {
        ArrowField x = new ArrowField();
        Check.dueArgumentBeside("field() with a FACE", x, 1, 8, face -> x.field(20, 1, face));
        x.field(20, 1, 1);
        Check.due("FACE 1", 1, x.many(4));
        x.field(20, 1, 8);
        Check.due("FACE 8", 8, x.many(4));
    }

    /** "IllegalStateException if an ARROW is STUCK": one is enough, of a QUIVER that nobody has too */
    private static void fieldWhileAnArrowIsStuck() {
        ArrowField x = Fields.slow(2, 4);
        x.tune(1, 5, 0);
        x.shoot(1, 11);
        Check.dueState("field() with one stuck", x, () -> x.field(20, 0, 4));
        Check.dueState("field() as it is, with one stuck", x, () -> x.field(10, 0, 4));
        x.give(1, 0);
        Check.due("who has quiver 1", -1, x.ofQuiver(1, 2));
        Check.dueState("field() with one of nobody's stuck", x, () -> x.field(20, 0, 4));
        x.pull();
        Check.due("field() behind the pull", 10, x.field(20, 0, 4));
    }

    /** "if an ARROW is STUCK": those that are AWAY or BROKEN do not hinder */
    private static void fieldWhileNoneIsStuck() {
        ArrowField x = Fields.slow(1, 4);
        x.tune(0, 5, 0);
        x.shoot(0, 0);
        x.shoot(0, 1);
        x.pull();
        Check.due("one is broken", 1, x.ofQuiver(0, 6));
        x.tune(0, 127, 0);
        x.shoot(0, 2);
        Check.due("one is away", 4, x.ofQuiver(0, 5));
        Check.due("field() with one broken and one away", 10, x.field(30, 0, 4));
    }

    /** "If several exceptions apply, the one that is named first is thrown": of field() */
    private static void fieldNamesArgumentFirst() {
        ArrowField x = Fields.slow(1, 4);
        x.tune(0, 5, 0);
        x.shoot(0, 0);
        Check.dueArgumentBeside("field() with a DISTANCE", x, 10, 90, distance -> x.field(distance, 0, 4));
        Check.dueArgumentBeside("field() with a WIND", x, -16, 16, wind -> x.field(10, wind, 4));
        Check.dueArgumentBeside("field() with a FACE", x, 1, 8, face -> x.field(10, 0, face));
    }

    /** "IllegalArgumentException if wind is not -16 to 16"; an ARROW that is STUCK and a MATCH do not hinder */
    private static void windAlone() {
        ArrowField x = Fields.slow(2, 4);
        Check.dueArgumentBeside("wind()", x, -16, 16, wind -> x.wind(wind));
        x.tune(0, 5, 0);
        x.match(0, 1);
        x.shoot(0, 0);
        Check.due("wind(-16)", 0, x.wind(-16));
        Check.due("wind(16)", -16, x.wind(16));
        Check.due("wind(16) again", 16, x.wind(16));
        Check.due("DISTANCE is as it was", 10, x.many(2));
        Check.due("FACE is as it was", 4, x.many(4));
    }

    /** "IllegalArgumentException if what is not 0 to 10"; the one named first is thrown */
    private static void ofArcherFrom0To10() {
        ArrowField x = Fields.slow(2, 4);
        Check.dueArgumentBeside("ofArcher(1, ..)", x, 0, 10, what -> x.ofArcher(1, what));
        Check.due("ofArcher(1, 0)", 48, x.ofArcher(1, 0));
        Check.due("ofArcher(1, 10)", 0, x.ofArcher(1, 10));
        Check.dueIndexBeside("ofArcher(.., 0)", x, 2, archer -> x.ofArcher(archer, 0));
        Check.dueIndexBeside("ofArcher(.., 11)", x, 2, archer -> x.ofArcher(archer, 11));
        Check.dueIndexBeside("ofArcher(.., -1)", x, 2, archer -> x.ofArcher(archer, -1));
    }

    /** "Returns the SPEED; 0.0 without a QUIVER." */
    private static void speedWithoutAQuiver() {
        ArrowField x = new ArrowField();
        x.archer(48, 9);
        x.archer(48, 9);
        Check.due("speed(0) at first", 0.0, x.speed(0));
        x.quiver(250, 628);
        Check.due("speed(0) before it is given", 0.0, x.speed(0));
        x.give(0, 0);
        Check.due("speed(0) with it", 64.0, x.speed(0));
        x.give(1, 0);
        Check.due("speed(0) behind it", 0.0, x.speed(0));
    }

    /** "IllegalArgumentException if what is not 0 to 6"; the one named first is thrown */
    private static void ofQuiverFrom0To6() {
        ArrowField x = Fields.slow(2, 4);
        Check.dueArgumentBeside("ofQuiver(1, ..)", x, 0, 6, what -> x.ofQuiver(1, what));
        Check.due("ofQuiver(1, 0)", 250, x.ofQuiver(1, 0));
        Check.due("ofQuiver(1, 6)", 0, x.ofQuiver(1, 6));
        Check.dueIndexBeside("ofQuiver(.., 0)", x, 2, quiver -> x.ofQuiver(quiver, 0));
        Check.dueIndexBeside("ofQuiver(.., 7)", x, 2, quiver -> x.ofQuiver(quiver, 7));
        Check.dueIndexBeside("ofQuiver(.., -1)", x, 2, quiver -> x.ofQuiver(quiver, -1));
    }

    /** "the set of ARROWS (the sum of 2^k) that are HERE, that of STUCK ones, of .. AWAY, of BROKEN ones" */
    private static void setsEmptyAndFull() {
        ArrowField x = Fields.slow(2, 8);
        dueSets("at first", x, 4095, 0, 0, 0);
        x.tune(0, 127, 0);
        shootAll(x);
        dueSets("all away", x, 0, 0, 4095, 0);
        x.pull();
        x.tune(0, 5, 0);
        shootAll(x);
        dueSets("each splits the one before", x, 0, 2048, 0, 2047);
        x.tune(1, 5, 0);
        x.shoot(1, 0);
        dueSets("all broken", x, 0, 0, 0, 4095);
        x.pull();
        dueSets("behind a pull", x, 0, 0, 0, 4095);
        Check.due("mend(0) of all", 12, x.mend(0));
        dueSets("behind the mending", x, 4095, 0, 0, 0);
        for (int arrow = 0; arrow < 12; arrow++) {
            x.string(0);
            x.tune(0, 5 + 2 * arrow, 0);
            x.shoot(0, arrow);
        }
        dueSets("all stuck", x, 0, 4095, 0, 0);
        Check.due("many(5)", 12, x.many(5));
    }

    private static void shootAll(ArrowField x) {
        for (int arrow = 0; arrow < 12; arrow++) {
            x.shoot(0, arrow);
        }
    }

    private static void dueSets(String when, ArrowField x, int... due) {
        for (int i = 0; i < due.length; i++) {
            Check.due("ofQuiver(0, " + (3 + i) + ") " + when, due[i], x.ofQuiver(0, 3 + i));
        }
    }

    /** "IllegalArgumentException if what is not 0 to 11" */
    private static void manyFrom0To11() {
        ArrowField x = Fields.slow(2, 4);
        Check.dueArgumentBeside("many()", x, 0, 11, what -> x.many(what));
        x.horn();
        Check.due("many(0)", 2, x.many(0));
        Check.due("many(11)", 1, x.many(11));
    }

    /** "An object is used for at most 512 calls": the 512th is answered as the first one */
    private static void fiveHundredAndTwelveCalls() {
        ArrowField horn = new ArrowField();
        for (int call = 1; call <= 512; call++) {
            Check.due("horn()", call, horn.horn());
        }
        ArrowField x = new ArrowField();
        x.archer(48, 9);
        x.quiver(250, 628);
        x.give(0, 0);
        x.tune(0, 5, 0);
        x.field(10, 0, 1);
        for (int shot = 0; shot < 253; shot++) {
            Check.due("shoot()", true, x.shoot(0, shot % 12) > 0);
            Check.due("pull()", 1, x.pull());
        }
        Check.due("SCORES ever behind 511 calls", 2530, x.ofArcher(0, 6));
    }
}
