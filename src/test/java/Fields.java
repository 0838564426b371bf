/**
 * Fields whose flights can be reckoned on paper.
 *
 * SLOW bow: DRAW 48 with MASS 250 has SPEED 48 * 600 / 450 = 64, so X is 4, 7.98, 11.95, 15.91 behind its TICKS.
 * From 10 it flies 3 TICKS: V = (3 * (SIGHT + NOCK) - 15) / 128, H = 3 * (SPINE - 628) / 4096 + 3 * WIND / 1024.
 * From 14 it flies 4 TICKS: V = (4 * (SIGHT + NOCK) - 30) / 128.
 *
 * FAST bow: DRAW 60 with MASS 200 has SPEED 90, so it flies 2 TICKS from 10.
 * With SIGHT 0 there: V = NOCK / 64 - 2.5 / 64, H = (SPINE - 460) / 2048 + WIND / 1024.
 *
 * Behind a few SHOTS (CREEP) the TICKS are still as many, so what does not hang on SIGHT * SPEED stays exact.
 */
final class Fields {
    static final int SLOW_DRAW = 48;
    static final int SLOW_MASS = 250;
    static final int SLOW_SPINE = 628;
    static final int FAST_DRAW = 60;
    static final int FAST_MASS = 200;
    static final int FAST_SPINE = 460;
    static final int NO_SHAKE = 9;

    private Fields() {
    }

    /** As many ARCHERS with a SLOW bow and no SHAKE, each with the QUIVER of the same number, from 10. */
    static ArrowField slow(int archers, int face) {
        ArrowField field = new ArrowField();
        for (int i = 0; i < archers; i++) {
            field.archer(SLOW_DRAW, NO_SHAKE);
            field.quiver(SLOW_MASS, SLOW_SPINE);
            field.give(i, i);
        }
        field.field(10, 0, face);
        return field;
    }

    /** An ARCHER with a FAST bow, NOCK 2 and no SHAKE, and QUIVERS (he has the first) of these SPINES, from 10. */
    static ArrowField fast(int face, int... spines) {
        ArrowField field = new ArrowField();
        field.archer(FAST_DRAW, NO_SHAKE);
        for (int spine : spines) {
            field.quiver(FAST_MASS, spine);
        }
        field.give(0, 0);
        field.tune(0, 0, 2);
        field.field(10, 0, face);
        return field;
    }

    /** An ARCHER without SHAKE who shoots straight ahead (H is 0.0 without WIND), by SIGHT 0, from there. */
    static ArrowField straight(int draw, int mass, int nock, int distance) {
        ArrowField field = new ArrowField();
        field.archer(draw, NO_SHAKE);
        field.quiver(mass, straightSpine(draw));
        field.give(0, 0);
        field.tune(0, 0, nock);
        field.field(distance, 0, 8);
        return field;
    }

    static int straightSpine(int draw) {
        return 1300 - 14 * draw;
    }

    /** V behind so many TICKS by SIGHT 0; all of it is exact. */
    static double fallen(int nock, int ticks) {
        return nock * ticks / 128.0 - 0.625 * ticks * (ticks - 1) / 32.0;
    }

    /** So many SHOTS to nobody's harm: the ARROW is pulled each time. */
    static void wearString(ArrowField field, int archer, int shots) {
        for (int shot = 0; shot < shots; shot++) {
            field.shoot(archer, 0);
            field.pull();
        }
    }
}
