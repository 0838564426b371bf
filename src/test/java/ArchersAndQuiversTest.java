/** Promises 1 to 8: a new object, archer, quiver, give, tune, string, field, wind. */
public final class ArchersAndQuiversTest {
    public static void main(String[] args) {
        newObject();
        archer();
        quiver();
        give();
        giveTakesAway();
        tune();
        string();
        creepIsLimited();
        field();
        fieldWithStuckArrow();
        wind();
        Check.end();
    }

    private static void newObject() {
        ArrowField x = new ArrowField();
        int[] many = {0, 0, 18, 0, 4, 0, 0, 0, 0, 0, 0, 0};
        for (int what = 0; what < many.length; what++) {
            Check.due("new: many(" + what + ")", many[what], x.many(what));
        }
        for (int what = 0; what < 8; what++) {
            Check.due("new: ofMatch(" + what + ")", -1, x.ofMatch(what));
        }
        Check.due("new: winner()", -1, x.winner());
        Check.due("new: pull()", 0, x.pull());
    }

    private static void archer() {
        ArrowField x = new ArrowField();
        Check.dueArgument("archer(19, 0)", x, () -> x.archer(19, 0));
        Check.dueArgument("archer(61, 0)", x, () -> x.archer(61, 0));
        Check.dueArgument("archer(20, -1)", x, () -> x.archer(20, -1));
        Check.dueArgument("archer(20, 10)", x, () -> x.archer(20, 10));
        Check.dueArgument("archer(MIN, 0)", x, () -> x.archer(Integer.MIN_VALUE, 0));
        Check.dueArgument("archer(20, MAX)", x, () -> x.archer(20, Integer.MAX_VALUE));
        Check.due("archer(20, 0)", 0, x.archer(20, 0));
        Check.due("archer(60, 9)", 1, x.archer(60, 9));
        int[] first = {20, 0, 0, 0, -1, 0, 0, 0, 0, 0, 0};
        int[] second = {60, 9, 0, 0, -1, 0, 0, 0, 0, 0, 0};
        for (int what = 0; what < first.length; what++) {
            Check.due("ofArcher(0, " + what + ")", first[what], x.ofArcher(0, what));
            Check.due("ofArcher(1, " + what + ")", second[what], x.ofArcher(1, what));
        }
        for (int i = 2; i < 6; i++) {
            Check.due("archer " + i, i, x.archer(40, 5));
        }
        Check.dueState("a seventh archer", x, () -> x.archer(40, 5));
        Check.dueArgument("a seventh archer with a wrong draw", x, () -> x.archer(19, 5));
        Check.due("many(0)", 6, x.many(0));
    }

    private static void quiver() {
        ArrowField x = new ArrowField();
        Check.dueArgument("quiver(199, 300)", x, () -> x.quiver(199, 300));
        Check.dueArgument("quiver(601, 300)", x, () -> x.quiver(601, 300));
        Check.dueArgument("quiver(200, 299)", x, () -> x.quiver(200, 299));
        Check.dueArgument("quiver(200, 1101)", x, () -> x.quiver(200, 1101));
        Check.dueArgument("quiver(200, MIN)", x, () -> x.quiver(200, Integer.MIN_VALUE));
        Check.due("quiver(200, 300)", 0, x.quiver(200, 300));
        Check.due("quiver(600, 1100)", 1, x.quiver(600, 1100));
        int[] first = {200, 300, -1, 4095, 0, 0, 0};
        int[] second = {600, 1100, -1, 4095, 0, 0, 0};
        for (int what = 0; what < first.length; what++) {
            Check.due("ofQuiver(0, " + what + ")", first[what], x.ofQuiver(0, what));
            Check.due("ofQuiver(1, " + what + ")", second[what], x.ofQuiver(1, what));
        }
        for (int i = 2; i < 6; i++) {
            Check.due("quiver " + i, i, x.quiver(400, 600));
        }
        Check.dueState("a seventh quiver", x, () -> x.quiver(400, 600));
        Check.dueArgument("a seventh quiver with a wrong mass", x, () -> x.quiver(199, 600));
        Check.due("many(1)", 6, x.many(1));
    }

    private static void give() {
        ArrowField x = new ArrowField();
        Check.dueIndex("give(0, 0) without archers", x, () -> x.give(0, 0));
        x.archer(40, 9);
        Check.dueIndex("give(0, 0) without quivers", x, () -> x.give(0, 0));
        x.quiver(400, 740);
        Check.dueIndex("give(1, 0)", x, () -> x.give(1, 0));
        Check.dueIndex("give(-1, 0)", x, () -> x.give(-1, 0));
        Check.dueIndex("give(0, 1)", x, () -> x.give(0, 1));
        Check.dueIndex("give(0, -1)", x, () -> x.give(0, -1));
        Check.due("give(0, 0)", -1, x.give(0, 0));
        Check.due("ofArcher(0, 4)", 0, x.ofArcher(0, 4));
        Check.due("ofQuiver(0, 2)", 0, x.ofQuiver(0, 2));
        Check.due("give(0, 0) again", 0, x.give(0, 0));
        Check.due("ofArcher(0, 4) still", 0, x.ofArcher(0, 4));
        x.archer(40, 9);
        x.quiver(400, 740);
        x.give(1, 1);
        x.match(0, 1);
        Check.dueState("give(0, 1) in a match", x, () -> x.give(0, 1));
        Check.dueState("give(0, 0) in a match", x, () -> x.give(0, 0));
        Check.dueIndex("give(2, 0) in a match", x, () -> x.give(2, 0));
        Check.dueIndex("give(0, 2) in a match", x, () -> x.give(0, 2));
        x.breakOff();
        Check.due("give(0, 1) behind a match", 1, x.give(0, 1));
    }

    private static void giveTakesAway() {
        ArrowField x = new ArrowField();
        x.archer(40, 9);
        x.archer(41, 9);
        x.quiver(400, 740);
        x.quiver(410, 740);
        x.give(0, 0);
        Check.due("give(0, 1)", -1, x.give(0, 1));
        Check.due("the quiver of before is nobody's", -1, x.ofQuiver(0, 2));
        Check.due("give(1, 1)", 0, x.give(1, 1));
        Check.due("who had it has none", -1, x.ofArcher(0, 4));
        Check.due("who has it now", 1, x.ofQuiver(1, 2));
        x.give(0, 0);
        Check.due("give(1, 0)", 0, x.give(1, 0));
        Check.due("archer 0 has none", -1, x.ofArcher(0, 4));
        Check.due("archer 1 has quiver 0", 0, x.ofArcher(1, 4));
        Check.due("quiver 1 is nobody's", -1, x.ofQuiver(1, 2));
    }

    private static void tune() {
        ArrowField x = new ArrowField();
        Check.dueIndex("tune(0, 0, 0) without archers", x, () -> x.tune(0, 0, 0));
        x.archer(40, 9);
        Check.due("tune(0, 127, 8)", 0, x.tune(0, 127, 8));
        Check.due("SIGHT", 127, x.ofArcher(0, 2));
        Check.due("NOCK", 8, x.ofArcher(0, 3));
        Check.due("tune(0, 0, -8)", 127, x.tune(0, 0, -8));
        Check.due("NOCK", -8, x.ofArcher(0, 3));
        Check.dueArgument("tune(0, -1, 0)", x, () -> x.tune(0, -1, 0));
        Check.dueArgument("tune(0, 128, 0)", x, () -> x.tune(0, 128, 0));
        Check.dueArgument("tune(0, 5, -9)", x, () -> x.tune(0, 5, -9));
        Check.dueArgument("tune(0, 5, 9)", x, () -> x.tune(0, 5, 9));
        Check.dueArgument("tune(0, 5, MIN)", x, () -> x.tune(0, 5, Integer.MIN_VALUE));
        Check.dueIndex("tune(1, 128, 9)", x, () -> x.tune(1, 128, 9));
        Check.dueIndex("tune(-1, 0, 0)", x, () -> x.tune(-1, 0, 0));
        Check.due("tune(0, 3, 0)", 0, x.tune(0, 3, 0));
    }

    private static void string() {
        ArrowField x = Fields.slow(1, 4);
        Check.dueIndex("string(1)", x, () -> x.string(1));
        Check.dueIndex("string(-1)", x, () -> x.string(-1));
        Check.due("string(0) of a new one", 0.0, x.string(0));
        x.shoot(0, 0);
        Check.due("speed behind a shot", 63.75, x.speed(0));
        Check.due("string(0) behind a shot", 0.00390625, x.string(0));
        Check.due("speed with a new string", 64.0, x.speed(0));
        x.shoot(0, 1);
        x.shoot(0, 2);
        Check.due("string(0) behind two shots", 0.0078125, x.string(0));
        Check.due("string(0) again", 0.0, x.string(0));
    }

    private static void creepIsLimited() {
        ArrowField x = Fields.slow(1, 4);
        for (int shot = 0; shot < 31; shot++) {
            shootAndFetch(x);
        }
        Check.due("speed behind 31 shots", 64.0 * (1.0 - 31.0 / 256.0), x.speed(0));
        shootAndFetch(x);
        Check.due("speed behind 32 shots", 56.0, x.speed(0));
        shootAndFetch(x);
        Check.due("speed behind 33 shots", 56.0, x.speed(0));
        Check.due("string(0) behind 33 shots", 0.125, x.string(0));
        Check.due("speed with a new string", 64.0, x.speed(0));
    }

    private static void shootAndFetch(ArrowField x) {
        x.shoot(0, 0);
        x.pull();
    }

    private static void field() {
        ArrowField x = new ArrowField();
        Check.dueArgument("field(9, 0, 1)", x, () -> x.field(9, 0, 1));
        Check.dueArgument("field(91, 0, 1)", x, () -> x.field(91, 0, 1));
        Check.dueArgument("field(10, -17, 1)", x, () -> x.field(10, -17, 1));
        Check.dueArgument("field(10, 17, 1)", x, () -> x.field(10, 17, 1));
        Check.dueArgument("field(10, 0, 0)", x, () -> x.field(10, 0, 0));
        Check.dueArgument("field(10, 0, 9)", x, () -> x.field(10, 0, 9));
        Check.due("field(10, -16, 1)", 18, x.field(10, -16, 1));
        Check.due("DISTANCE", 10, x.many(2));
        Check.due("WIND", -16, x.many(3));
        Check.due("FACE", 1, x.many(4));
        Check.due("field(90, 16, 8)", 10, x.field(90, 16, 8));
        Check.due("DISTANCE", 90, x.many(2));
        Check.due("WIND", 16, x.many(3));
        Check.due("FACE", 8, x.many(4));
    }

    private static void fieldWithStuckArrow() {
        ArrowField x = Fields.slow(1, 4);
        x.tune(0, 5, 0);
        x.shoot(0, 0);
        Check.dueState("field(20, 1, 2) with a stuck arrow", x, () -> x.field(20, 1, 2));
        Check.dueState("field(10, 0, 4) with a stuck arrow", x, () -> x.field(10, 0, 4));
        Check.dueArgument("field(9, 0, 4) with a stuck arrow", x, () -> x.field(9, 0, 4));
        x.pull();
        Check.due("field(20, 1, 2) behind the pull", 10, x.field(20, 1, 2));
        x.tune(0, 127, 8);
        Check.due("a shot too high", 0, x.shoot(0, 0));
        Check.due("field with an arrow away", 20, x.field(30, 1, 2));
    }

    private static void wind() {
        ArrowField x = Fields.slow(1, 4);
        Check.dueArgument("wind(-17)", x, () -> x.wind(-17));
        Check.dueArgument("wind(17)", x, () -> x.wind(17));
        Check.due("wind(16)", 0, x.wind(16));
        Check.due("wind(-16)", 16, x.wind(-16));
        Check.due("WIND", -16, x.many(3));
        Check.due("DISTANCE stays", 10, x.many(2));
        Check.due("FACE stays", 4, x.many(4));
        x.wind(0);
        x.tune(0, 5, 0);
        x.shoot(0, 0);
        Check.due("wind(3) with a stuck arrow", 0, x.wind(3));
        Check.due("WIND", 3, x.many(3));
    }
}
