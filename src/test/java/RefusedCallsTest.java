import java.util.ArrayList;
import java.util.List;

/**
 * "A method that throws an exception changes nothing." Two objects get the same calls, but one of them is asked for
 * refused ones too, all along; each answer is the same then, also where digest() does not look.
 */
public final class RefusedCallsTest {
    private static final int REFUSED_BEHIND_EACH = 3;

    private final ArrowField x = new ArrowField();
    private final boolean refusing;
    private final List<Double> answers = new ArrayList<>();
    private final List<Check.Call> alwaysRefused = new ArrayList<>();
    private int next;
    private int refused;
    private int notRefused;

    private RefusedCallsTest(boolean refusing) {
        this.refusing = refusing;
        refusedByIndex();
        refusedByArgument();
    }

    public static void main(String[] args) {
        List<Double> plain = played(false);
        List<Double> disturbed = played(true);
        Check.due("how many answers", plain.size(), disturbed.size());
        for (int i = 0; i < plain.size(); i++) {
            Check.due("answer " + i + " with refused calls between", plain.get(i), disturbed.get(i));
        }
        Check.end();
    }

    private static List<Double> played(boolean refusing) {
        RefusedCallsTest played = new RefusedCallsTest(refusing);
        played.settle();
        played.shootFreely();
        played.shootAMatch();
        played.shootLastArrows();
        played.ask();
        Check.due("calls that were not refused", 0, played.notRefused);
        Check.due("each call was refused once at least", refusing, played.refused > 2 * played.alwaysRefused.size());
        return played.answers;
    }

    private void refusedByIndex() {
        alwaysRefused.add(() -> x.give(6, 0));
        alwaysRefused.add(() -> x.give(0, 6));
        alwaysRefused.add(() -> x.tune(-1, 9, 9));
        alwaysRefused.add(() -> x.string(6));
        alwaysRefused.add(() -> x.shoot(0, 12));
        alwaysRefused.add(() -> x.shoot(1, -1));
        alwaysRefused.add(() -> x.shoot(6, 0));
        alwaysRefused.add(() -> x.mend(6));
        alwaysRefused.add(() -> x.match(0, 6));
        alwaysRefused.add(() -> x.match(-1, 1));
        alwaysRefused.add(() -> x.ofArcher(6, 0));
        alwaysRefused.add(() -> x.speed(6));
        alwaysRefused.add(() -> x.ofQuiver(6, 0));
        alwaysRefused.add(() -> x.hit(0, 12, true));
        alwaysRefused.add(() -> x.wouldHit(6, 0, true));
        alwaysRefused.add(() -> x.mark(6));
        alwaysRefused.add(() -> x.best(6));
        alwaysRefused.add(() -> x.reach(6));
        alwaysRefused.add(() -> x.wouldScore(6));
    }

    private void refusedByArgument() {
        alwaysRefused.add(() -> x.archer(19, 0));
        alwaysRefused.add(() -> x.archer(20, 10));
        alwaysRefused.add(() -> x.quiver(601, 300));
        alwaysRefused.add(() -> x.quiver(200, 299));
        alwaysRefused.add(() -> x.tune(0, 128, 3));
        alwaysRefused.add(() -> x.tune(1, 9, -9));
        alwaysRefused.add(() -> x.field(91, 3, 3));
        alwaysRefused.add(() -> x.field(50, 17, 3));
        alwaysRefused.add(() -> x.field(50, 3, 9));
        alwaysRefused.add(() -> x.wind(-17));
        alwaysRefused.add(() -> x.match(0, 0));
        alwaysRefused.add(() -> x.ofArcher(0, 11));
        alwaysRefused.add(() -> x.ofQuiver(0, 7));
        alwaysRefused.add(() -> x.many(12));
        alwaysRefused.add(() -> x.ofMatch(8));
        alwaysRefused.add(() -> x.wouldHit(0, 128, true));
    }

    private void refuse(Check.Call call) {
        if (!refusing) {
            return;
        }
        try {
            call.make();
            notRefused++;
        } catch (IndexOutOfBoundsException | IllegalArgumentException | IllegalStateException e) {
            refused++;
        }
    }

    private void answered(double answer) {
        answers.add(answer);
        for (int i = 0; i < REFUSED_BEHIND_EACH; i++) {
            refuse(alwaysRefused.get(next));
            next = (next + 1) % alwaysRefused.size();
        }
    }

    /** ARCHERS 0 and 1 shoot with STEADY 8 and 9, ARCHER 2 never does. */
    private void settle() {
        answered(x.archer(Fields.SLOW_DRAW, 8));
        answered(x.archer(Fields.SLOW_DRAW, 9));
        answered(x.archer(30, 0));
        for (int quiver = 0; quiver < 6; quiver++) {
            answered(x.quiver(Fields.SLOW_MASS, Fields.SLOW_SPINE + quiver));
        }
        refuse(() -> x.quiver(300, 700));
        refuse(() -> x.shoot(0, 0));
        refuse(() -> x.match(0, 1));
        refuse(() -> x.breakOff());
        answered(x.give(0, 0));
        answered(x.give(1, 1));
        answered(x.field(10, 1, 8));
        answered(x.tune(0, 5, 1));
        answered(x.tune(1, 6, -1));
    }

    private void shootFreely() {
        for (int arrow = 0; arrow < 4; arrow++) {
            int shot = arrow;
            answered(x.shoot(0, arrow));
            refuse(() -> x.shoot(0, shot));
            refuse(() -> x.shoot(2, shot));
            refuse(() -> x.field(20, 0, 4));
            answered(x.shoot(1, arrow));
        }
        answered(x.close(true) ? 1 : 0);
        refuse(() -> x.shoot(0, 5));
        answered(x.close(false) ? 1 : 0);
        answered(x.pull());
    }

    private void shootAMatch() {
        answered(x.match(0, 1));
        answered(x.tune(0, 5, 0));
        answered(x.tune(1, 5, 0));
        for (int shot = 0; shot < 16; shot++) {
            int other = 1 - shot % 2;
            refuse(() -> x.shoot(other, 11));
            refuse(() -> x.shoot(2, 11));
            refuse(() -> x.give(0, 1));
            refuse(() -> x.match(1, 0));
            answered(x.shoot(shot % 2, 4 + shot / 2));
        }
        Check.due("it is by LAST ARROWS now", 1, x.ofMatch(7));
    }

    private void shootLastArrows() {
        answered(x.pull());
        answered(x.mend(0));
        answered(x.mend(1));
        answered(x.tune(0, 6, 0));
        answered(x.tune(1, 2, 0));
        refuse(() -> x.shoot(1, 11));
        answered(x.shoot(0, 11));
        refuse(() -> x.shoot(0, 10));
        refuse(() -> x.shoot(1, 12));
        answered(x.shoot(1, 11));
        refuse(() -> x.breakOff());
        Check.due("the first one was nearer", 0, x.winner());
        answered(x.ofMatch(0));
    }

    private void ask() {
        for (int archer = 0; archer < 3; archer++) {
            answers.add(x.speed(archer));
            answers.add((double) x.best(archer));
        }
        for (int arrow = 0; arrow < 12; arrow++) {
            answers.add(x.hit(0, arrow, false));
            answers.add(x.hit(0, arrow, true));
            answers.add(x.hit(1, arrow, false));
            answers.add(x.hit(1, arrow, true));
        }
        answers.add((double) (x.digest() & 0xFFFFFFFFL));
        answers.add((double) (x.digest() >>> 32));
        answers.add(x.string(0));
        answers.add(x.string(1));
    }
}
