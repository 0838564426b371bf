/** Promises 23 to 27: wouldHit, mark, best, reach, wouldScore. */
public final class WouldBeTest {
    public static void main(String[] args) {
        wouldHit();
        wouldHitWithCreep();
        mark();
        best();
        reach();
        reachOfAFastBow();
        wouldScore();
        Check.end();
    }

    private static void wouldHit() {
        ArrowField x = Fields.slow(1, 4);
        x.quiver(250, 628 + 256);
        for (int sight = 0; sight <= 127; sight++) {
            Check.due("V by " + sight, 3 * (sight - 5) / 128.0, x.wouldHit(0, sight, true));
        }
        x.tune(0, 99, -8);
        Check.due("V by 0 with NOCK -8", 3 * -13 / 128.0, x.wouldHit(0, 0, true));
        x.tune(0, 99, 8);
        Check.due("V by 20 with NOCK 8", 3 * 23 / 128.0, x.wouldHit(0, 20, true));
        for (int wind = -16; wind <= 16; wind++) {
            x.wind(wind);
            Check.due("H with WIND " + wind, 3 * wind / 1024.0, x.wouldHit(0, 20, false));
        }
        x.give(0, 1);
        Check.due("H with SPINE 884", 0.1875 + 48 / 1024.0, x.wouldHit(0, 20, false));
        x.field(14, 0, 4);
        Check.due("H from 14 with SPINE 884", 0.25, x.wouldHit(0, 20, false));
        x.tune(0, 0, 0);
        Check.due("V from 14", (4 * 20 - 30) / 128.0, x.wouldHit(0, 20, true));
        x.field(11, 0, 4);
        Check.due("V from 11", 3 * 15 / 128.0, x.wouldHit(0, 20, true));
        x.field(12, 0, 4);
        Check.due("V from 12", (4 * 20 - 30) / 128.0, x.wouldHit(0, 20, true));
    }

    private static void wouldHitWithCreep() {
        ArrowField x = Fields.slow(1, 4);
        x.shoot(0, 0);
        Check.due("V behind a shot", 3 * (63.75 * 16 / 512.0) / 16.0 - 0.1171875, x.wouldHit(0, 16, true));
    }

    private static void mark() {
        ArrowField x = Fields.slow(1, 4);
        Check.due("mark(0) from 10", 5, x.mark(0));
        x.tune(0, 90, 3);
        Check.due("mark(0) with NOCK 3", 2, x.mark(0));
        x.tune(0, 90, -8);
        Check.due("mark(0) with NOCK -8", 13, x.mark(0));
        x.tune(0, 90, 0);
        x.field(14, 16, 4);
        Check.due("V by 7", -1 / 64.0, x.wouldHit(0, 7, true));
        Check.due("V by 8", 1 / 64.0, x.wouldHit(0, 8, true));
        Check.due("mark(0) of two that are as near", 7, x.mark(0));
    }

    private static void best() {
        ArrowField x = new ArrowField();
        x.archer(Fields.SLOW_DRAW, 9);
        x.archer(Fields.SLOW_DRAW, 9);
        Check.due("best(0) without quivers", -1, x.best(0));
        x.quiver(250, 640);
        x.quiver(250, 628);
        x.quiver(250, 630);
        Check.due("best(0), nobody has one", 1, x.best(0));
        x.give(1, 1);
        Check.due("best(0), somebody else has it", 2, x.best(0));
        Check.due("best(1), that one has it", 1, x.best(1));
        x.give(0, 2);
        Check.due("best(0), the own one", 2, x.best(0));
        Check.due("best(1)", 1, x.best(1));
        x.give(0, 0);
        Check.due("best(0), nobody's again", 2, x.best(0));
        x.field(10, 16, 4);
        x.quiver(250, 564);
        Check.due("best(0) against the wind", 3, x.best(0));
        x.wind(-16);
        Check.due("best(0) with the other wind", 0, x.best(0));
        ArrowField y = new ArrowField();
        y.archer(40, 9);
        y.archer(40, 9);
        y.quiver(250, 640);
        y.give(1, 0);
        Check.due("best(0), somebody else has all", -1, y.best(0));
        Check.due("best(1)", 0, y.best(1));
    }

    private static void reach() {
        ArrowField x = new ArrowField();
        x.archer(20, 9);
        x.quiver(600, 1020);
        x.give(0, 0);
        x.tune(0, 0, 8);
        Check.due("reach(0) with NOCK 8", 14, x.reach(0));
        x.tune(0, 0, -8);
        Check.due("reach(0) with NOCK -8", -1, x.reach(0));
        x.field(40, 3, 4);
        x.tune(0, 3, 8);
        Check.due("reach(0) whatever the field is", 14, x.reach(0));
    }

    private static void reachOfAFastBow() {
        ArrowField x = Fields.fast(4, 460);
        Check.due("reach(0) with SPEED 90", 90, x.reach(0));
        ArrowField y = Fields.slow(1, 4);
        int reach = y.reach(0);
        y.field(reach, 0, 4);
        Check.due("V from there is no less than 0", true, y.wouldHit(0, 127, true) >= 0.0);
        for (int distance = reach + 1; distance <= 90; distance++) {
            y.field(distance, 0, 4);
            Check.due("V from " + distance + " is less", true, y.wouldHit(0, 127, true) < 0.0);
        }
    }

    private static void wouldScore() {
        ArrowField x = new ArrowField();
        x.archer(Fields.SLOW_DRAW, 0);
        x.quiver(Fields.SLOW_MASS, Fields.SLOW_SPINE);
        x.give(0, 0);
        x.field(10, 0, 1);
        x.tune(0, 5, 0);
        Check.due("wouldScore(0)", 10, x.wouldScore(0));
        Check.due("shoot(0, 0) with shake", 4, x.shoot(0, 0));
        x.string(0);
        Check.due("wouldScore(0) is without shake", 10, x.wouldScore(0));
        x.tune(0, 12, 0);
        Check.due("wouldScore(0) on the last ring", 1, x.wouldScore(0));
        x.tune(0, 13, 0);
        Check.due("wouldScore(0) beside the face", 0, x.wouldScore(0));
        x.close(true);
        x.tune(0, 5, 2);
        Check.due("wouldScore(0) while closed", 8, x.wouldScore(0));
    }
}
