/** Promises 9 to 11, 14 and 15: shoot, pull, mend, close, horn; with SCORES, SHAKE and SPLITS. */
public final class ShootingTest {
    public static void main(String[] args) {
        scoresAtTheRings();
        scoresOfEveryFace();
        shake();
        drawnOfAll();
        pull();
        mend();
        close();
        horn();
        sixOfEach();
        Check.end();
    }

    /** FACE 1 has R = (2 * (11 - s) + 1) / 128, and V is 3 * (SIGHT - 5) / 128: at 6, 8 and 11 .. just on a ring. */
    private static void scoresAtTheRings() {
        ArrowField x = Fields.slow(1, 1);
        int[] due = {4, 5, 7, 8, 10, 10, 10, 8, 7, 5, 4, 2, 1, 0, 0};
        for (int sight = 0; sight < due.length; sight++) {
            x.tune(0, sight, 0);
            Check.due("wouldScore(0) by " + sight, due[sight], x.wouldScore(0));
            Check.due("shoot(0, 0) by " + sight, due[sight], x.shoot(0, 0));
            Check.due("V by " + sight, 3 * (sight - 5) / 128.0, x.hit(0, 0, true));
            Check.due("H by " + sight, 0.0, x.hit(0, 0, false));
            Check.due("set of stuck ones by " + sight, due[sight] > 0 ? 1 : 0, x.ofQuiver(0, 4));
            Check.due("set of those away by " + sight, due[sight] > 0 ? 0 : 1, x.ofQuiver(0, 5));
            x.pull();
            x.string(0);
        }
    }

    private static void scoresOfEveryFace() {
        for (int face = 1; face <= 8; face++) {
            ArrowField x = Fields.slow(1, face);
            x.tune(0, 29, 0);
            int due = 0;
            for (int s = 1; s <= 10; s++) {
                if (72 <= 2 * face * (11 - s) + 1) {
                    due = s;
                }
            }
            Check.due("shoot(0, 0) with FACE " + face, due, x.shoot(0, 0));
        }
    }

    private static void shake() {
        for (int steady = 0; steady <= 9; steady++) {
            ArrowField x = new ArrowField();
            x.archer(Fields.SLOW_DRAW, steady);
            x.quiver(Fields.SLOW_MASS, Fields.SLOW_SPINE);
            x.give(0, 0);
            x.tune(0, 5, 0);
            x.field(10, 0, 8);
            double h = 3.5 * (9 - steady) * 10 / 4096.0;
            x.shoot(0, 0);
            Check.due("H of the first shot, steady " + steady, h, x.hit(0, 0, false));
            Check.due("V of the first shot, steady " + steady, -h, x.hit(0, 0, true));
            Check.due("wouldHit() is without shake", 0.0, x.wouldHit(0, 0, false));
            x.string(0);
            x.shoot(0, 1);
            Check.due("H of the second shot, steady " + steady, (2 - 3.5) * (9 - steady) * 10 / 4096.0,
                    x.hit(0, 1, false));
            Check.due("V of the second shot, steady " + steady, (4 - 3.5) * (9 - steady) * 10 / 4096.0,
                    x.hit(0, 1, true));
        }
    }

    private static void drawnOfAll() {
        ArrowField x = Fields.slow(2, 4);
        int drawn = 0;
        for (int shot = 0; shot < 70; shot++) {
            x.shoot(shot % 2, 0);
            drawn = (13 * drawn + 7) % 64;
            Check.due("DRAWN behind shot " + shot, drawn, x.many(8));
            Check.due("SHOTS behind shot " + shot, shot + 1, x.many(6));
            x.pull();
            x.mend(0);
            x.mend(1);
        }
    }

    private static void pull() {
        ArrowField x = Fields.slow(2, 1);
        Check.due("pull() of none", 0, x.pull());
        x.tune(0, 5, 0);
        x.tune(1, 8, 0);
        x.shoot(0, 0);
        x.shoot(0, 1);
        x.shoot(1, 4);
        x.tune(1, 127, 0);
        x.shoot(1, 5);
        Check.due("END sum", 20, x.ofArcher(0, 8));
        Check.due("END shots", 2, x.ofArcher(0, 9));
        Check.due("END tens", 2, x.ofArcher(0, 10));
        Check.due("END sum of 1", 7, x.ofArcher(1, 8));
        Check.due("END shots of 1", 2, x.ofArcher(1, 9));
        Check.due("END tens of 1", 0, x.ofArcher(1, 10));
        double v = x.hit(1, 4, true);
        Check.due("pull()", 2, x.pull());
        Check.due("all but the broken one are here", 4094, x.ofQuiver(0, 3));
        Check.due("the broken one", 1, x.ofQuiver(0, 6));
        Check.due("all of 1 are here", 4095, x.ofQuiver(1, 3));
        for (int what = 8; what <= 10; what++) {
            Check.due("END is gone " + what, 0, x.ofArcher(0, what) + x.ofArcher(1, what));
        }
        Check.due("SHOTS ever stay", 2, x.ofArcher(0, 5));
        Check.due("SCORES ever stay", 20, x.ofArcher(0, 6));
        Check.due("hit() stays", v, x.hit(1, 4, true));
        Check.due("pull() again", 0, x.pull());
    }

    private static void mend() {
        ArrowField x = Fields.slow(2, 4);
        Check.dueIndex("mend(2)", x, () -> x.mend(2));
        Check.dueIndex("mend(-1)", x, () -> x.mend(-1));
        Check.due("mend(0) of none", 0, x.mend(0));
        x.tune(0, 5, 0);
        x.tune(1, 5, 0);
        x.shoot(0, 0);
        x.shoot(0, 1);
        x.shoot(0, 2);
        x.shoot(1, 0);
        x.shoot(1, 1);
        Check.due("mend(0)", 3, x.mend(0));
        Check.due("quiver 0 is here", 4095, x.ofQuiver(0, 3));
        Check.due("quiver 1 has a broken one still", 1, x.ofQuiver(1, 6));
        Check.due("the stuck one of quiver 1 stays", 2, x.ofQuiver(1, 4));
        Check.due("mend(1)", 1, x.mend(1));
        Check.due("its stuck one stays", 2, x.ofQuiver(1, 4));
        Check.due("SPLITS ever stay", 4, x.many(7));
        Check.due("END stays", 30, x.ofArcher(0, 8));
    }

    private static void close() {
        ArrowField x = Fields.slow(2, 4);
        Check.due("close(false)", false, x.close(false));
        Check.due("close(true)", false, x.close(true));
        Check.due("many(10)", 1, x.many(10));
        Check.dueState("shoot(0, 0) while closed", x, () -> x.shoot(0, 0));
        Check.dueIndex("shoot(0, 12) while closed", x, () -> x.shoot(0, 12));
        Check.due("match(0, 1) while closed", 1, x.match(0, 1));
        Check.dueState("shoot(0, 0) in a match while closed", x, () -> x.shoot(0, 0));
        Check.due("close(true) again", true, x.close(true));
        Check.due("close(false)", true, x.close(false));
        Check.due("many(10)", 0, x.many(10));
        x.shoot(0, 0);
        Check.due("SHOTS", 1, x.many(6));
    }

    private static void horn() {
        ArrowField x = new ArrowField();
        for (int blown = 1; blown <= 5; blown++) {
            Check.due("horn()", blown, x.horn());
            Check.due("many(11)", blown, x.many(11));
        }
    }

    private static void sixOfEach() {
        ArrowField x = Fields.slow(6, 8);
        for (int archer = 0; archer < 6; archer++) {
            x.tune(archer, 2 + archer, 0);
            Check.due("shoot(" + archer + ", 0)", true, x.shoot(archer, 0) > 0);
        }
        Check.due("many(5)", 6, x.many(5));
        Check.due("best(5)", 5, x.best(5));
        Check.due("shoot(5, 1)", true, x.shoot(5, 1) > 0);
        Check.due("set of broken ones of quiver 5", 1, x.ofQuiver(5, 6));
        Check.due("END shots of 5", 2, x.ofArcher(5, 9));
        Check.due("pull()", 6, x.pull());
        Check.due("END shots of 5 behind the pull", 0, x.ofArcher(5, 9));
        Check.due("mend(5)", 1, x.mend(5));
        Check.due("give(5, 0)", 0, x.give(5, 0));
        Check.due("who has quiver 5", -1, x.ofQuiver(5, 2));
        Check.dueIndex("ofArcher(6, 0)", x, () -> x.ofArcher(6, 0));
        Check.dueIndex("ofQuiver(6, 0)", x, () -> x.ofQuiver(6, 0));
        Check.dueIndex("give(6, 0)", x, () -> x.give(6, 0));
        Check.dueIndex("give(0, 6)", x, () -> x.give(0, 6));
    }
}
