/** Promise 28: digest, reckoned again from what the other calls answer. */
public final class DigestTest {
    public static void main(String[] args) {
        newObject();
        busyField();
        fullField();
        Check.end();
    }

    private static void newObject() {
        ArrowField x = new ArrowField();
        int[] answers = {0, 0, 18, 0, 4, 0, 0, 0, 0, 0, 0, 0, -1, -1, -1, -1, -1, -1, -1, -1, -1};
        long d = 58318;
        for (int answer : answers) {
            d = d * 31 + answer;
        }
        Check.due("digest() of a new object", d, x.digest());
        Check.due("digest() again", d, x.digest());
    }

    /** A new object for each: reckoning takes some 200 calls, and an object is good for 512. */
    private static void busyField() {
        for (int shots = 0; shots <= 14; shots++) {
            ArrowField x = busyBehind(shots);
            Check.due("digest() behind " + shots + " shots", reckoned(x), x.digest());
            x.close(true);
            Check.due("digest() closed, behind " + shots + " shots", reckoned(x), x.digest());
        }
    }

    /** 6 ARCHERS and 6 QUIVERS, each with an ARROW that was SHOT. */
    private static void fullField() {
        ArrowField x = new ArrowField();
        for (int i = 0; i < 6; i++) {
            x.archer(30 + 5 * i, i);
            x.quiver(600 - 70 * i, 860 - 61 * i);
            x.give(i, i);
            x.tune(i, 40 - 6 * i, i - 3);
        }
        for (int i = 0; i < 6; i++) {
            x.shoot(i, 11 - i);
        }
        Check.due("digest() of a full field", reckoned(x), x.digest());
    }

    private static ArrowField busyBehind(int shots) {
        ArrowField x = new ArrowField();
        x.archer(48, 0);
        x.archer(33, 4);
        x.archer(60, 9);
        x.quiver(250, 628);
        x.quiver(333, 801);
        x.quiver(600, 1100);
        x.quiver(200, 300);
        x.give(0, 0);
        x.give(1, 1);
        x.field(23, -7, 8);
        x.tune(0, 31, 1);
        x.tune(1, 40, -2);
        x.horn();
        x.match(1, 0);
        for (int shot = 0; shot < shots && x.winner() < 0; shot++) {
            x.shoot(x.ofMatch(6), shot / 2);
        }
        return x;
    }

    private static long reckoned(ArrowField x) {
        long d = 58318;
        for (int what = 0; what <= 11; what++) {
            d = d * 31 + x.many(what);
        }
        for (int what = 0; what <= 7; what++) {
            d = d * 31 + x.ofMatch(what);
        }
        d = d * 31 + x.winner();
        for (int archer = 0; archer < x.many(0); archer++) {
            for (int what = 0; what <= 10; what++) {
                d = d * 31 + x.ofArcher(archer, what);
            }
            d = d * 31 + (long) (1024 * x.speed(archer));
            d = d * 31 + x.best(archer);
        }
        for (int quiver = 0; quiver < x.many(1); quiver++) {
            for (int what = 0; what <= 6; what++) {
                d = d * 31 + x.ofQuiver(quiver, what);
            }
            for (int arrow = 0; arrow < 12; arrow++) {
                d = d * 31 + (long) (4096 * x.hit(quiver, arrow, false));
                d = d * 31 + (long) (4096 * x.hit(quiver, arrow, true));
            }
        }
        return d;
    }
}
