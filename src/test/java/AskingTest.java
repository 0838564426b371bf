/** Promises 16 to 20: ofArcher, speed, ofQuiver, hit, many. */
public final class AskingTest {
    public static void main(String[] args) {
        ofArcher();
        endOfTheArcher();
        speed();
        ofQuiver();
        hit();
        many();
        Check.end();
    }

    private static void ofArcher() {
        ArrowField x = Fields.slow(2, 1);
        Check.dueIndex("ofArcher(2, 0)", x, () -> x.ofArcher(2, 0));
        Check.dueIndex("ofArcher(-1, 0)", x, () -> x.ofArcher(-1, 0));
        Check.dueIndex("ofArcher(2, 11)", x, () -> x.ofArcher(2, 11));
        Check.dueArgument("ofArcher(0, -1)", x, () -> x.ofArcher(0, -1));
        Check.dueArgument("ofArcher(0, 11)", x, () -> x.ofArcher(0, 11));
        x.tune(0, 5, 0);
        x.shoot(0, 0);
        x.tune(0, 8, 0);
        x.string(0);
        x.shoot(0, 1);
        x.tune(0, 8, -3);
        int[] due = {48, 9, 8, -3, 0, 2, 17, 0, 17, 2, 1};
        int[] dueOfOther = {48, 9, 0, 0, 1, 0, 0, 0, 0, 0, 0};
        for (int what = 0; what < due.length; what++) {
            Check.due("ofArcher(0, " + what + ")", due[what], x.ofArcher(0, what));
            Check.due("ofArcher(1, " + what + ")", dueOfOther[what], x.ofArcher(1, what));
        }
        x.pull();
        int[] dueBehind = {48, 9, 8, -3, 0, 2, 17, 0, 0, 0, 0};
        for (int what = 0; what < due.length; what++) {
            Check.due("ofArcher(0, " + what + ") behind a pull", dueBehind[what], x.ofArcher(0, what));
        }
    }

    /** What was SHOT is the ARCHER's, whatever QUIVER it was of. */
    private static void endOfTheArcher() {
        ArrowField x = Fields.slow(2, 4);
        x.tune(0, 5, 0);
        x.shoot(0, 0);
        x.give(1, 0);
        Check.due("END sum of the shooter", 10, x.ofArcher(0, 8));
        Check.due("END sum of who has the quiver now", 0, x.ofArcher(1, 8));
        x.give(0, 1);
        x.shoot(0, 0);
        Check.due("END sum with two quivers", 20, x.ofArcher(0, 8));
        Check.due("END tens with two quivers", 2, x.ofArcher(0, 10));
        Check.due("SPLIT of another quiver", 1, x.ofQuiver(0, 6));
    }

    private static void speed() {
        ArrowField x = new ArrowField();
        Check.dueIndex("speed(0)", x, () -> x.speed(0));
        x.archer(60, 9);
        Check.dueIndex("speed(-1)", x, () -> x.speed(-1));
        Check.due("speed(0) without a quiver", 0.0, x.speed(0));
        x.quiver(200, 460);
        x.quiver(600, 460);
        x.quiver(333, 460);
        x.give(0, 0);
        Check.due("speed(0) by 200", 90.0, x.speed(0));
        x.give(0, 1);
        Check.due("speed(0) by 600", 45.0, x.speed(0));
        x.give(0, 2);
        Check.due("speed(0) by 333", 36000.0 / 533.0, x.speed(0));
        x.shoot(0, 0);
        Check.due("speed(0) with creep", 36000.0 / 533.0 * 0.99609375, x.speed(0));
        x.give(0, 0);
        Check.due("creep is the bow's", 89.6484375, x.speed(0));
    }

    private static void ofQuiver() {
        ArrowField x = Fields.slow(2, 1);
        Check.dueIndex("ofQuiver(2, 0)", x, () -> x.ofQuiver(2, 0));
        Check.dueIndex("ofQuiver(-1, 0)", x, () -> x.ofQuiver(-1, 0));
        Check.dueIndex("ofQuiver(2, 7)", x, () -> x.ofQuiver(2, 7));
        Check.dueArgument("ofQuiver(0, 7)", x, () -> x.ofQuiver(0, 7));
        Check.dueArgument("ofQuiver(0, -1)", x, () -> x.ofQuiver(0, -1));
        x.tune(0, 5, 0);
        x.shoot(0, 3);
        x.shoot(0, 5);
        x.tune(0, 127, 0);
        x.shoot(0, 11);
        int[] due = {250, 628, 0, 4095 - 8 - 32 - 2048, 32, 2048, 8};
        int[] dueOfOther = {250, 628, 1, 4095, 0, 0, 0};
        for (int what = 0; what < due.length; what++) {
            Check.due("ofQuiver(0, " + what + ")", due[what], x.ofQuiver(0, what));
            Check.due("ofQuiver(1, " + what + ")", dueOfOther[what], x.ofQuiver(1, what));
        }
    }

    private static void hit() {
        ArrowField x = Fields.slow(1, 1);
        Check.dueIndex("hit(1, 0, true)", x, () -> x.hit(1, 0, true));
        Check.dueIndex("hit(-1, 0, true)", x, () -> x.hit(-1, 0, true));
        Check.dueIndex("hit(0, 12, false)", x, () -> x.hit(0, 12, false));
        Check.dueIndex("hit(0, -1, false)", x, () -> x.hit(0, -1, false));
        Check.due("H of one never shot", 0.0, x.hit(0, 11, false));
        Check.due("V of one never shot", 0.0, x.hit(0, 11, true));
        x.tune(0, 7, 0);
        x.wind(8);
        x.shoot(0, 11);
        Check.due("H", 24 / 1024.0, x.hit(0, 11, false));
        Check.due("V", 6 / 128.0, x.hit(0, 11, true));
        x.pull();
        Check.due("H behind a pull", 24 / 1024.0, x.hit(0, 11, false));
        x.string(0);
        x.wind(-4);
        x.tune(0, 5, 0);
        x.shoot(0, 11);
        Check.due("H of the last shot", -12 / 1024.0, x.hit(0, 11, false));
        Check.due("V of the last shot", 0.0, x.hit(0, 11, true));
        Check.due("H of another arrow", 0.0, x.hit(0, 10, false));
    }

    private static void many() {
        ArrowField x = Fields.slow(2, 1);
        Check.dueArgument("many(-1)", x, () -> x.many(-1));
        Check.dueArgument("many(12)", x, () -> x.many(12));
        x.quiver(300, 700);
        x.wind(-2);
        x.tune(0, 5, 0);
        x.tune(1, 7, 0);
        x.shoot(0, 0);
        x.shoot(0, 1);
        x.shoot(1, 0);
        x.match(0, 1);
        x.close(true);
        x.horn();
        int[] due = {2, 3, 10, -2, 1, 2, 3, 1, 1, 1, 1, 1};
        for (int what = 0; what < due.length; what++) {
            Check.due("many(" + what + ")", due[what], x.many(what));
        }
    }
}
