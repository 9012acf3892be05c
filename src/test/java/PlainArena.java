import java.util.ArrayList;
import java.util.Arrays;
import java.util.List;

/**
 * The document once more, written from its words alone and in no hurry: everything is kept as it came
 * and reckoned anew when asked. ModelTest holds the class against it.
 */
final class PlainArena {
    static final class PlainWriting {
        List<int[]> strokes;
        int damp;
        boolean forged;
        boolean found;
    }

    static final class PlainDuel {
        int one;
        int other;
        int judge;
        int paper;
        int rounds;
        int draw;
        int day;
        int signsThen;
        int second = -1;
        final List<PlainWriting> handed = new ArrayList<>();

        boolean hasAllRounds() {
            return handed.size() == 2 * rounds;
        }

        int next() {
            return handed.size() % 2 == 0 ? one : other;
        }
    }

    List<int[]> draft = new ArrayList<>();
    final List<List<int[]>> signs = new ArrayList<>();
    final List<PlainDuel> duels = new ArrayList<>();
    final int[] sheets = new int[3];
    final int[] damp = new int[3];
    final int[] rises = new int[3];
    final int[][] weights = new int[4][3];
    final int[][] learned = new int[4][4];
    int day;
    int taken;

    PlainArena() {
        for (int[] ofJudge : learned) {
            Arrays.fill(ofJudge, Integer.MAX_VALUE);
        }
    }

    private static void noSuch(boolean is) {
        if (is) {
            throw new IndexOutOfBoundsException();
        }
    }

    private static void wrong(boolean is) {
        if (is) {
            throw new IllegalArgumentException();
        }
    }

    private static void notNow(boolean is) {
        if (is) {
            throw new IllegalStateException();
        }
    }

    private static boolean beyond(int number, int least, int most) {
        return number < least || most < number;
    }

    int stroke(int x, int y, int endX, int endY) {
        for (int place : new int[] {x, y, endX, endY}) {
            wrong(beyond(place, 0, 99));
        }
        wrong(x == endX && y == endY);
        notNow(draft.size() == 8);
        draft.add(new int[] {x, y, endX, endY});
        return draft.size();
    }

    int clear() {
        int had = draft.size();
        draft = new ArrayList<>();
        return had;
    }

    int sign() {
        notNow(draft.isEmpty() || draft.size() > 6 || signs.size() == 6);
        signs.add(draft);
        draft = new ArrayList<>();
        return signs.size() - 1;
    }

    int buy(int paper, int more) {
        noSuch(beyond(paper, 0, 2));
        wrong(beyond(more, 1, 100));
        notNow(sheets[paper] + more > 1000);
        return sheets[paper] += more;
    }

    int rise(int paper, int rise) {
        noSuch(beyond(paper, 0, 2));
        wrong(beyond(rise, -10, 10));
        rises[paper] = rise;
        return damp[paper];
    }

    void style(int style, int nearness, int slope, int order) {
        noSuch(beyond(style, 0, 3));
        wrong(beyond(nearness, 0, 100) || beyond(slope, 0, 100) || beyond(order, 0, 100));
        weights[style] = new int[] {nearness, slope, order};
    }

    int learn(int judge, int style) {
        noSuch(beyond(judge, 0, 3) || beyond(style, 0, 3));
        notNow(learned[judge][style] <= day);
        learned[judge][style] = day;
        int knows = 0;
        for (int since : learned[judge]) {
            knows += since <= day ? 1 : 0;
        }
        return knows;
    }

    int pass(int days) {
        wrong(beyond(days, 1, 100));
        notNow(day + days > 5000);
        for (int k = 0; k < days; k++) {
            day++;
            for (int p = 0; p < 3; p++) {
                damp[p] += rises[p];
                if (damp[p] > 100) {
                    damp[p] = 100;
                }
                if (damp[p] < 0) {
                    damp[p] = 0;
                }
            }
        }
        return day;
    }

    int duel(int one, int other, int judge, int paper, int rounds, int draw) {
        noSuch(beyond(one, 0, 7) || beyond(other, 0, 7) || beyond(judge, 0, 3) || beyond(paper, 0, 2));
        wrong(one == other || beyond(rounds, 1, 5) || beyond(draw, 0, 999));
        notNow(signs.isEmpty() || duels.size() == 12);
        PlainDuel begun = new PlainDuel();
        begun.one = one;
        begun.other = other;
        begun.judge = judge;
        begun.paper = paper;
        begun.rounds = rounds;
        begun.draw = draw;
        begun.day = day;
        begun.signsThen = signs.size();
        duels.add(begun);
        return duels.size() - 1;
    }

    int hand(int duel, int seal) {
        noSuch(beyond(duel, 0, duels.size() - 1));
        wrong(beyond(seal, 0, 999));
        PlainDuel in = duels.get(duel);
        notNow(in.hasAllRounds() || draft.isEmpty() || sheets[in.paper] == 0);
        sheets[in.paper]--;
        taken++;
        PlainWriting writing = new PlainWriting();
        writing.strokes = draft;
        writing.damp = damp[in.paper];
        writing.forged = seal != (101 * in.next() + 37 * taken) % 1000;
        in.handed.add(writing);
        draft = new ArrayList<>();
        return taken;
    }

    private PlainWriting writing(int duel, int round, boolean other) {
        noSuch(beyond(duel, 0, duels.size() - 1) || beyond(round, 0, 4));
        int number = other ? 2 * round + 1 : 2 * round;
        noSuch(number >= duels.get(duel).handed.size());
        return duels.get(duel).handed.get(number);
    }

    boolean look(int duel, int round, boolean other) {
        PlainWriting seen = writing(duel, round, other);
        if (seen.forged) {
            seen.found = true;
        }
        return seen.forged;
    }

    int appeal(int duel, int judge) {
        noSuch(beyond(duel, 0, duels.size() - 1) || beyond(judge, 0, 3));
        PlainDuel in = duels.get(duel);
        notNow(!in.hasAllRounds() || in.second != -1 || in.judge == judge);
        in.second = judge;
        return winner(in);
    }

    int prompt(int duel, int round) {
        noSuch(beyond(duel, 0, duels.size() - 1));
        noSuch(beyond(round, 0, duels.get(duel).rounds - 1));
        return (duels.get(duel).draw + 17 * round) % duels.get(duel).signsThen;
    }

    float mark(int sign, int style) {
        noSuch(beyond(sign, 0, signs.size() - 1) || beyond(style, 0, 3));
        return byStyle(draft, signs.get(sign), 0, style);
    }

    float part(int sign, int stroke, int what) {
        noSuch(beyond(sign, 0, signs.size() - 1));
        noSuch(beyond(stroke, 0, Math.min(signs.get(sign).size(), draft.size()) - 1));
        wrong(beyond(what, 0, 2));
        return parts(draft, signs.get(sign), stroke, 0)[what];
    }

    float marked(int duel, int round, boolean other) {
        writing(duel, round, other);
        return markInRound(duels.get(duel), 2 * round + (other ? 1 : 0));
    }

    int of(int duel, int what) {
        noSuch(beyond(duel, 0, duels.size() - 1));
        wrong(beyond(what, 0, 5));
        PlainDuel asked = duels.get(duel);
        int[] all = {
            asked.handed.size(), rounds(asked)[0], rounds(asked)[1], winner(asked), asked.day, asked.second
        };
        return all[what];
    }

    int paper(int paper, int what) {
        noSuch(beyond(paper, 0, 2));
        wrong(beyond(what, 0, 1));
        return what == 0 ? sheets[paper] : damp[paper];
    }

    int won(int writer) {
        noSuch(beyond(writer, 0, 7));
        int count = 0;
        for (PlainDuel each : duels) {
            count += winner(each) == writer ? 1 : 0;
        }
        return count;
    }

    private static float[] parts(List<int[]> writing, List<int[]> sign, int k, int damp) {
        int[] w = writing.get(k);
        int[] s = sign.get(k);
        int together = 0;
        for (int n = 0; n < 4; n++) {
            together += w[n] > s[n] ? w[n] - s[n] : s[n] - w[n];
        }
        float tenth = together / 10.0f;
        float near = 10.0f - tenth;
        if (near < 0.0f) {
            near = 0.0f;
        }
        float halfDamp = damp / 200.0f;
        float dry = 1.0f - halfDamp;
        near = near * dry;
        float a = w[2] - w[0];
        float b = w[3] - w[1];
        float c = s[2] - s[0];
        float d = s[3] - s[1];
        float p = a * c + b * d;
        float slope = p * Math.abs(p);
        slope = slope / (a * a + b * b);
        slope = slope / (c * c + d * d);
        slope = slope * 10.0f;
        if (slope < 0.0f) {
            slope = 0.0f;
        }
        return new float[] {near, slope, writing.size() == sign.size() ? 10.0f : 0.0f};
    }

    private float byStyle(List<int[]> writing, List<int[]> sign, int damp, int style) {
        float all = 0.0f;
        for (int k = 0; k < writing.size() && k < sign.size(); k++) {
            float[] parts = parts(writing, sign, k, damp);
            float whole = 0.0f;
            for (int n = 0; n < 3; n++) {
                float weighed = weights[style][n] * parts[n];
                whole = whole + weighed;
            }
            float ofStroke = whole / 100.0f;
            all = all + ofStroke;
        }
        return all / sign.size();
    }

    private float byJudge(PlainDuel duel, int number, int judge) {
        PlainWriting writing = duel.handed.get(number);
        List<int[]> sign = signs.get((duel.draw + 17 * (number / 2)) % duel.signsThen);
        float best = 0.0f;
        for (int style = 0; style < 4; style++) {
            if (learned[judge][style] <= duel.day) {
                best = Math.max(best, byStyle(writing.strokes, sign, writing.damp, style));
            }
        }
        return best;
    }

    private float markInRound(PlainDuel duel, int number) {
        float mark = byJudge(duel, number, duel.judge);
        if (duel.second != -1) {
            float sum = mark + byJudge(duel, number, duel.second);
            mark = sum / 2.0f;
        }
        return mark;
    }

    private int[] rounds(PlainDuel duel) {
        int[] went = new int[2];
        for (int k = 0; 2 * k + 1 < duel.handed.size(); k++) {
            boolean oneLoses = duel.handed.get(2 * k).found;
            boolean otherLoses = duel.handed.get(2 * k + 1).found;
            float one = markInRound(duel, 2 * k);
            float other = markInRound(duel, 2 * k + 1);
            if (oneLoses != otherLoses) {
                went[oneLoses ? 1 : 0]++;
            } else if (!oneLoses && one != other) {
                went[one > other ? 0 : 1]++;
            }
        }
        return went;
    }

    private int winner(PlainDuel duel) {
        int[] went = rounds(duel);
        if (!duel.hasAllRounds() || went[0] == went[1]) {
            return -1;
        }
        return went[0] > went[1] ? duel.one : duel.other;
    }
}
