import java.util.ArrayList;
import java.util.List;

/**
 * A second writing of the document, to compare random runs with. It keeps a log of what was SHOT and reckons the
 * ENDS, the CREEP and the MATCH anew out of it at each question, so that it shares no way of reckoning with ArrowField.
 * An answer is a double (a long where the digest is asked); an exception is told by its name.
 */
final class PlainField {
    private record Shot(int archer, int score, double h, double v) {
    }

    private static final class Bow {
        int draw;
        int steady;
        int sight;
        int nock;
        int quiver = -1;
        int shotsOnString;
        int won;
    }

    private static final class Case {
        int mass;
        int spine;
        final String[] is = new String[12];
        final double[][] at = new double[12][2];
    }

    private final List<Bow> bows = new ArrayList<>();
    private final List<Case> cases = new ArrayList<>();
    private final List<Shot> log = new ArrayList<>();
    private int pulledAt;
    private int distance = 18;
    private int wind;
    private int face = 4;
    private boolean closed;
    private int splits;
    private int blown;
    private int matches;
    private int matchFrom = -1;
    private int one;
    private int other;
    private int winner = -1;

    Object call(String name, int a, int b, int c) {
        switch (name) {
            case "archer": return archer(a, b);
            case "quiver": return quiver(a, b);
            case "give": return give(a, b);
            case "tune": return tune(a, b, c);
            case "string": return string(a);
            case "field": return field(a, b, c);
            case "wind": return setWind(a);
            case "shoot": return shoot(a, b);
            case "pull": return pull();
            case "mend": return mend(a);
            case "match": return match(a, b);
            case "breakOff": return breakOff();
            case "close": return close(a != 0);
            case "horn": return (double) ++blown;
            case "ofArcher": return noBow(a) ? index() : out(b, 0, 10) ? argument() : (Object) (double) ofArcher(a, b);
            case "speed": return noBow(a) ? index() : (Object) speed(a);
            case "ofQuiver": return noCase(a) ? index() : out(b, 0, 6) ? argument() : (Object) (double) ofQuiver(a, b);
            case "hit": return noCase(a) || out(b, 0, 11) ? index() : (Object) cases.get(a).at[b][c == 0 ? 0 : 1];
            case "many": return out(a, 0, 11) ? argument() : (Object) (double) many(a);
            case "ofMatch": return out(a, 0, 7) ? argument() : (Object) (double) ofMatch(a);
            case "winner": return (double) winner;
            case "wouldHit": return wouldHit(a, b, c);
            case "mark": return noBow(a) ? index() : bows.get(a).quiver < 0 ? state() : (Object) (double) mark(a);
            case "best": return noBow(a) ? index() : (Object) (double) best(a);
            case "reach": return noBow(a) ? index() : bows.get(a).quiver < 0 ? state() : (Object) (double) reach(a);
            case "wouldScore": return wouldScore(a);
            case "digest": return digest();
            default: throw new IllegalArgumentException(name);
        }
    }

    private static Object index() {
        return "IndexOutOfBoundsException";
    }

    private static Object argument() {
        return "IllegalArgumentException";
    }

    private static Object state() {
        return "IllegalStateException";
    }

    private static boolean out(int value, int least, int most) {
        return value < least || most < value;
    }

    private boolean noBow(int a) {
        return out(a, 0, bows.size() - 1);
    }

    private boolean noCase(int q) {
        return out(q, 0, cases.size() - 1);
    }

    private Object archer(int draw, int steady) {
        if (out(draw, 20, 60) || out(steady, 0, 9)) {
            return argument();
        }
        if (bows.size() == 6) {
            return state();
        }
        Bow bow = new Bow();
        bow.draw = draw;
        bow.steady = steady;
        bows.add(bow);
        return bows.size() - 1.0;
    }

    private Object quiver(int mass, int spine) {
        if (out(mass, 200, 600) || out(spine, 300, 1100)) {
            return argument();
        }
        if (cases.size() == 6) {
            return state();
        }
        Case made = new Case();
        made.mass = mass;
        made.spine = spine;
        java.util.Arrays.fill(made.is, "HERE");
        cases.add(made);
        return cases.size() - 1.0;
    }

    private Object give(int a, int q) {
        if (noBow(a) || noCase(q)) {
            return index();
        }
        if (matchFrom >= 0) {
            return state();
        }
        int had = -1;
        for (Bow bow : bows) {
            if (bow.quiver == q) {
                had = bows.indexOf(bow);
                bow.quiver = -1;
            }
        }
        bows.get(a).quiver = q;
        return (double) had;
    }

    private Object tune(int a, int sight, int nock) {
        if (noBow(a)) {
            return index();
        }
        if (out(sight, 0, 127) || out(nock, -8, 8)) {
            return argument();
        }
        double before = bows.get(a).sight;
        bows.get(a).sight = sight;
        bows.get(a).nock = nock;
        return before;
    }

    private Object string(int a) {
        if (noBow(a)) {
            return index();
        }
        double before = creep(bows.get(a));
        bows.get(a).shotsOnString = 0;
        return before;
    }

    private static double creep(Bow bow) {
        return Math.min(bow.shotsOnString, 32) / 256.0;
    }

    private Object field(int newDistance, int newWind, int newFace) {
        if (out(newDistance, 10, 90) || out(newWind, -16, 16) || out(newFace, 1, 8)) {
            return argument();
        }
        if (many(5) > 0) {
            return state();
        }
        double before = distance;
        distance = newDistance;
        wind = newWind;
        face = newFace;
        return before;
    }

    private Object setWind(int newWind) {
        if (out(newWind, -16, 16)) {
            return argument();
        }
        double before = wind;
        wind = newWind;
        return before;
    }

    private int drawn() {
        int drawn = 0;
        for (int i = 0; i < log.size(); i++) {
            drawn = (13 * drawn + 7) % 64;
        }
        return drawn;
    }

    private double speedBy(Bow bow, Case arrows) {
        return bow.draw * 600.0 / (arrows.mass + 200.0) * (1.0 - creep(bow));
    }

    private double[] fly(Bow bow, Case arrows, int sight, int far) {
        double f = speedBy(bow, arrows);
        double u = f * sight / 512.0 + bow.nock / 8.0;
        double s = (arrows.spine - (1300 - 14 * bow.draw)) / 256.0;
        double x = 0.0;
        double y = 0.0;
        double z = 0.0;
        do {
            x = x + f / 16.0;
            y = y + u / 16.0;
            z = z + s / 16.0;
            f = f - f / 256.0;
            u = u - 0.625;
            s = s + wind / 64.0;
        } while (!(x >= far));
        return new double[] {z, y};
    }

    private int score(double h, double v) {
        int best = 0;
        for (int s = 1; s <= 10; s++) {
            double r = face * (11 - s) / 64.0 + 0.0078125;
            if (h * h + v * v <= r * r) {
                best = s;
            }
        }
        return best;
    }

    private Object shoot(int a, int arrow) {
        if (noBow(a) || out(arrow, 0, 11)) {
            return index();
        }
        Bow bow = bows.get(a);
        if (closed || bow.quiver < 0 || !cases.get(bow.quiver).is[arrow].equals("HERE")
                || matchFrom >= 0 && ofMatch(6) != a) {
            return state();
        }
        Case arrows = cases.get(bow.quiver);
        double[] hit = fly(bow, arrows, bow.sight, distance);
        int drawn = (13 * drawn() + 7) % 64;
        double h = hit[0] + (drawn % 8 - 3.5) * (9 - bow.steady) * distance / 4096.0;
        double v = hit[1] + (drawn / 8 - 3.5) * (9 - bow.steady) * distance / 4096.0;
        split(h, v);
        int score = score(h, v);
        arrows.is[arrow] = score > 0 ? "STUCK" : "AWAY";
        arrows.at[arrow] = new double[] {h, v};
        bow.shotsOnString++;
        log.add(new Shot(a, score, h, v));
        settleMatch();
        return (double) score;
    }

    private void split(double h, double v) {
        for (Case arrows : cases) {
            for (int k = 0; k < 12; k++) {
                if (arrows.is[k].equals("STUCK") && Math.abs(h - arrows.at[k][0]) < 0.015625
                        && Math.abs(v - arrows.at[k][1]) < 0.015625) {
                    arrows.is[k] = "BROKEN";
                    splits++;
                    return;
                }
            }
        }
    }

    private double become(Case arrows, String was) {
        double count = 0;
        for (int k = 0; k < 12; k++) {
            if (arrows.is[k].equals(was)) {
                arrows.is[k] = "HERE";
                count++;
            }
        }
        return count;
    }

    private Object pull() {
        double stuck = 0;
        for (Case arrows : cases) {
            stuck += become(arrows, "STUCK");
            become(arrows, "AWAY");
        }
        pulledAt = log.size();
        return stuck;
    }

    private Object mend(int q) {
        return noCase(q) ? index() : (Object) become(cases.get(q), "BROKEN");
    }

    private Object match(int first, int second) {
        if (noBow(first) || noBow(second)) {
            return index();
        }
        if (first == second) {
            return argument();
        }
        if (matchFrom >= 0 || bows.get(first).quiver < 0 || bows.get(second).quiver < 0) {
            return state();
        }
        one = first;
        other = second;
        matchFrom = log.size();
        return (double) ++matches;
    }

    private Object breakOff() {
        if (matchFrom < 0) {
            return state();
        }
        double points = ofMatch(2) * 10 + ofMatch(3);
        matchFrom = -1;
        return points;
    }

    private Object close(boolean is) {
        double before = closed ? 1 : 0;
        closed = is;
        return before;
    }

    /** Both POINTS, both sums, whose turn it is, whether it is by LAST ARROWS, and who has won: all out of the log. */
    private int[] replay() {
        List<Shot> shots = log.subList(matchFrom, log.size());
        int[] points = new int[2];
        int next = 0;
        while (points[0] < 4 && points[1] < 4 && shots.size() - next >= 4) {
            int first = shots.get(next).score + shots.get(next + 2).score;
            int second = shots.get(next + 1).score + shots.get(next + 3).score;
            points[0] += first > second ? 2 : first == second ? 1 : 0;
            points[1] += second > first ? 2 : first == second ? 1 : 0;
            next += 4;
        }
        int[] sums = new int[2];
        int left = shots.size() - next;
        int won = points[0] >= 4 && points[1] < 4 ? one : points[1] >= 4 && points[0] < 4 ? other : -1;
        boolean last = points[0] >= 4 && points[1] >= 4;
        for (int i = 0; !last && i < left; i++) {
            sums[i % 2] += shots.get(next + i).score;
        }
        for (int i = 0; last && i + 1 < left; i += 2) {
            double first = far(shots.get(next + i));
            double second = far(shots.get(next + i + 1));
            won = first < second ? one : second < first ? other : -1;
        }
        return new int[] {points[0], points[1], sums[0], sums[1], left % 2 == 0 ? one : other, last ? 1 : 0, won};
    }

    private static double far(Shot shot) {
        return shot.h * shot.h + shot.v * shot.v;
    }

    private void settleMatch() {
        if (matchFrom >= 0 && replay()[6] >= 0) {
            winner = replay()[6];
            bows.get(winner).won++;
            matchFrom = -1;
        }
    }

    private int ofMatch(int what) {
        return matchFrom < 0 ? -1 : what == 0 ? one : what == 1 ? other : replay()[what - 2];
    }

    private int ofArcher(int a, int what) {
        Bow bow = bows.get(a);
        List<Shot> own = log.stream().filter(shot -> shot.archer == a).toList();
        List<Shot> end = log.stream().skip(pulledAt).filter(shot -> shot.archer == a).toList();
        int[] answers = {bow.draw, bow.steady, bow.sight, bow.nock, bow.quiver, own.size(), sum(own), bow.won, sum(end),
            end.size(), (int) end.stream().filter(shot -> shot.score == 10).count()};
        return answers[what];
    }

    private static int sum(List<Shot> shots) {
        return shots.stream().mapToInt(Shot::score).sum();
    }

    private double speed(int a) {
        Bow bow = bows.get(a);
        return bow.quiver < 0 ? 0.0 : speedBy(bow, cases.get(bow.quiver));
    }

    private int holder(int q) {
        for (int a = 0; a < bows.size(); a++) {
            if (bows.get(a).quiver == q) {
                return a;
            }
        }
        return -1;
    }

    private int ofQuiver(int q, int what) {
        Case arrows = cases.get(q);
        if (what < 3) {
            return new int[] {arrows.mass, arrows.spine, holder(q)}[what];
        }
        String is = new String[] {"HERE", "STUCK", "AWAY", "BROKEN"}[what - 3];
        int set = 0;
        for (int k = 11; k >= 0; k--) {
            set = 2 * set + (arrows.is[k].equals(is) ? 1 : 0);
        }
        return set;
    }

    private int many(int what) {
        int stuck = 0;
        for (int q = 0; q < cases.size(); q++) {
            stuck += Integer.bitCount(ofQuiver(q, 4));
        }
        return new int[] {bows.size(), cases.size(), distance, wind, face, stuck, log.size(), splits, drawn(), matches,
            closed ? 1 : 0, blown}[what];
    }

    private Object wouldHit(int a, int sight, int isV) {
        if (noBow(a)) {
            return index();
        }
        if (out(sight, 0, 127)) {
            return argument();
        }
        Bow bow = bows.get(a);
        return bow.quiver < 0 ? state() : (Object) fly(bow, cases.get(bow.quiver), sight, distance)[isV == 0 ? 0 : 1];
    }

    private int mark(int a) {
        Bow bow = bows.get(a);
        int mark = 127;
        for (int sight = 126; sight >= 0; sight--) {
            double now = fly(bow, cases.get(bow.quiver), sight, distance)[1];
            double best = fly(bow, cases.get(bow.quiver), mark, distance)[1];
            mark = Math.abs(now) <= Math.abs(best) ? sight : mark;
        }
        return mark;
    }

    private int best(int a) {
        int best = -1;
        double by = Double.MAX_VALUE;
        for (int q = cases.size() - 1; q >= 0; q--) {
            double now = Math.abs(fly(bows.get(a), cases.get(q), bows.get(a).sight, distance)[0]);
            if ((holder(q) == -1 || holder(q) == a) && now <= by) {
                best = q;
                by = now;
            }
        }
        return best;
    }

    private int reach(int a) {
        int reach = -1;
        for (int far = 10; far <= 90; far++) {
            if (fly(bows.get(a), cases.get(bows.get(a).quiver), 127, far)[1] >= 0.0) {
                reach = far;
            }
        }
        return reach;
    }

    private Object wouldScore(int a) {
        if (noBow(a)) {
            return index();
        }
        Bow bow = bows.get(a);
        if (bow.quiver < 0) {
            return state();
        }
        double[] hit = fly(bow, cases.get(bow.quiver), bow.sight, distance);
        return (double) score(hit[0], hit[1]);
    }

    private Object digest() {
        List<Long> values = new ArrayList<>();
        for (int what = 0; what <= 11; what++) {
            values.add((long) many(what));
        }
        for (int what = 0; what <= 7; what++) {
            values.add((long) ofMatch(what));
        }
        values.add((long) winner);
        for (int a = 0; a < bows.size(); a++) {
            for (int what = 0; what <= 10; what++) {
                values.add((long) ofArcher(a, what));
            }
            values.add((long) (1024 * speed(a)));
            values.add((long) best(a));
        }
        for (int q = 0; q < cases.size(); q++) {
            for (int what = 0; what <= 6; what++) {
                values.add((long) ofQuiver(q, what));
            }
            for (double[] at : cases.get(q).at) {
                values.add((long) (4096 * at[0]));
                values.add((long) (4096 * at[1]));
            }
        }
        long d = 58318;
        for (long v : values) {
            d = d * 31 + v;
        }
        return d;
    }
}
