/** Fields where matches are shot set by set, with SLOW bows without SHAKE, from 10 with FACE 8. */
final class Matches {
    /** Worth 10, whatever the CREEP is. */
    static final int GOOD_SIGHT = 5;
    /** Worth 0, whatever the CREEP is. */
    static final int BAD_SIGHT = 127;

    private Matches() {
    }

    /** ARCHERS 0, 1 and 2 of a SLOW field. */
    static ArrowField three() {
        ArrowField x = Fields.slow(3, 8);
        for (int archer = 0; archer < 3; archer++) {
            x.tune(archer, GOOD_SIGHT, 0);
        }
        return x;
    }

    /** Shoots SETS in the MATCH of these two: '1' is won by the one, '2' by the other one, '=' by neither. */
    static void shootSets(ArrowField x, int one, int other, String sets) {
        for (int i = 0; i < sets.length(); i++) {
            x.tune(one, sets.charAt(i) == '2' ? BAD_SIGHT : GOOD_SIGHT, 0);
            x.tune(other, sets.charAt(i) == '1' ? BAD_SIGHT : GOOD_SIGHT, 0);
            for (int pair = 0; pair < 2; pair++) {
                x.shoot(one, pair);
                x.shoot(other, pair);
            }
            fetchAll(x);
        }
    }

    /** A MATCH of 0 and 1 that is by LAST ARROWS now, all ARROWS HERE, with new strings. */
    static ArrowField byLastArrows() {
        ArrowField x = three();
        x.match(0, 1);
        shootSets(x, 0, 1, "====");
        x.string(0);
        x.string(1);
        return x;
    }

    static void fetchAll(ArrowField x) {
        int quivers = x.many(1);
        x.pull();
        for (int quiver = 0; quiver < quivers; quiver++) {
            x.mend(quiver);
        }
    }

    static void dueMatch(String when, ArrowField x, int... due) {
        for (int what = 0; what < due.length; what++) {
            Check.due("ofMatch(" + what + ") " + when, due[what], x.ofMatch(what));
        }
    }

    static void dueNoMatch(String when, ArrowField x) {
        dueMatch(when, x, -1, -1, -1, -1, -1, -1, -1, -1);
    }
}
