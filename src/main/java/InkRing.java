/**
 * An arena of calligraphy: signs and writings of strokes, damp paper, duels, judges and seals.
 *
 * <p>What is looked up by a number is null (or NONE) where there is no such thing, so that the one
 * test before a use is the document's own "there is no such ..".
 */
public final class InkRing {
    /** There is none; nobody. */
    public static final int NONE = -1;

    private static final int MOST_PLACE = 99;
    private static final int MOST_DRAFTED = 8;
    private static final int MOST_SIGN_STROKES = 6;
    private static final int MOST_SIGNS = 6;

    private static final int PAPERS = 3;
    private static final int MOST_BOUGHT = 100;
    private static final int MOST_SHEETS = 1000;
    private static final int MOST_RISE = 10;
    private static final int MOST_DAMP = 100;

    private static final int STYLES = 4;
    private static final int MOST_WEIGHT = 100;
    private static final int JUDGES = 4;
    private static final int MOST_PASSED = 100;
    private static final int LAST_DAY = 5000;

    private static final int WRITERS = 8;
    private static final int MOST_DUELS = 12;
    private static final int MOST_ROUNDS = 5;
    private static final int MOST_DRAW = 999;
    private static final int DRAW_STEP = 17;

    private static final int SEALS = 1000;
    private static final int SEAL_OF_WRITER = 101;
    private static final int SEAL_OF_SHEET = 37;

    private final Strokes[] signs = new Strokes[MOST_SIGNS];
    private final Paper[] papers = new Paper[PAPERS];
    private final Style[] styles = new Style[STYLES];
    private final Judge[] judges = new Judge[JUDGES];
    private final Duel[] duels = new Duel[MOST_DUELS];
    private Strokes draft = new Strokes();
    private int signCount;
    private int duelCount;
    private int sheetsTaken;
    private int day;

    public InkRing() {
        for (int k = 0; k < papers.length; k++) {
            papers[k] = new Paper();
        }
        for (int k = 0; k < styles.length; k++) {
            styles[k] = new Style();
        }
        for (int k = 0; k < judges.length; k++) {
            judges[k] = new Judge();
        }
    }

    // ---- signs, drafts

    public int stroke(int x, int y, int endX, int endY)
            throws IllegalArgumentException, IllegalStateException {
        if (!isPlace(x, y) || !isPlace(endX, endY)) {
            throw new IllegalArgumentException("a place is out of range");
        }
        if (x == endX && y == endY) {
            throw new IllegalArgumentException("both places are the same");
        }
        if (draft.count >= MOST_DRAFTED) {
            throw new IllegalStateException("the draft is full");
        }
        draft.add(new Stroke(x, y, endX, endY));
        return draft.count;
    }

    public int clear() {
        int had = draft.count;
        draft.empty();
        return had;
    }

    public int sign() throws IllegalStateException {
        if (draft.count == 0 || draft.count > MOST_SIGN_STROKES) {
            throw new IllegalStateException("the draft has not 1 to 6 strokes");
        }
        if (!isWithin(signCount, 0, signs.length - 1)) {
            throw new IllegalStateException("there are all signs");
        }
        int number = signCount;
        signs[number] = draft;
        signCount++;
        draft = new Strokes();
        return number;
    }

    // ---- paper, judges

    public int buy(int paper, int sheets)
            throws IndexOutOfBoundsException, IllegalArgumentException, IllegalStateException {
        Paper bought = paperAt(paper);
        if (bought == null) {
            throw new IndexOutOfBoundsException("no such paper");
        }
        if (!isWithin(sheets, 1, MOST_BOUGHT)) {
            throw new IllegalArgumentException("sheets is out of range");
        }
        if (bought.sheets + sheets > MOST_SHEETS) {
            throw new IllegalStateException("there would be too many sheets");
        }
        bought.sheets += sheets;
        return bought.sheets;
    }

    public int rise(int paper, int rise) throws IndexOutOfBoundsException, IllegalArgumentException {
        Paper told = paperAt(paper);
        if (told == null) {
            throw new IndexOutOfBoundsException("no such paper");
        }
        if (!isWithin(rise, -MOST_RISE, MOST_RISE)) {
            throw new IllegalArgumentException("rise is out of range");
        }
        told.dailyRise = rise;
        return told.damp;
    }

    public void style(int style, int nearness, int slope, int order)
            throws IndexOutOfBoundsException, IllegalArgumentException {
        Style told = styleAt(style);
        if (told == null) {
            throw new IndexOutOfBoundsException("no such style");
        }
        if (!isWithin(nearness, 0, MOST_WEIGHT)
                || !isWithin(slope, 0, MOST_WEIGHT)
                || !isWithin(order, 0, MOST_WEIGHT)) {
            throw new IllegalArgumentException("a weight is out of range");
        }
        told.nearness = nearness;
        told.slope = slope;
        told.order = order;
    }

    public int learn(int judge, int style) throws IndexOutOfBoundsException, IllegalStateException {
        Judge learner = judgeAt(judge);
        if (learner == null || styleAt(style) == null) {
            throw new IndexOutOfBoundsException("no such judge or style");
        }
        if (learner.knowsOn(style, day)) {
            throw new IllegalStateException("the judge knows it");
        }
        learner.takeUp(style, day);
        return learner.countKnown();
    }

    public int pass(int days) throws IllegalArgumentException, IllegalStateException {
        if (!isWithin(days, 1, MOST_PASSED)) {
            throw new IllegalArgumentException("days is out of range");
        }
        if (day + days > LAST_DAY) {
            throw new IllegalStateException("the day would be too late");
        }
        day += days;
        for (int k = 0; k < papers.length; k++) {
            if (papers[k] != null) {
                papers[k].age(days);
            }
        }
        return day;
    }

    // ---- duels

    public int duel(int one, int other, int judge, int paper, int rounds, int draw)
            throws IndexOutOfBoundsException, IllegalArgumentException, IllegalStateException {
        if (!isWriter(one) || !isWriter(other)) {
            throw new IndexOutOfBoundsException("no such writer");
        }
        if (judgeAt(judge) == null || paperAt(paper) == null) {
            throw new IndexOutOfBoundsException("no such judge or paper");
        }
        if (one == other) {
            throw new IllegalArgumentException("both writers are the same");
        }
        if (!isWithin(rounds, 1, MOST_ROUNDS) || !isWithin(draw, 0, MOST_DRAW)) {
            throw new IllegalArgumentException("rounds or draw is out of range");
        }
        if (signCount == 0 || !isWithin(duelCount, 0, duels.length - 1)) {
            throw new IllegalStateException("there are no signs, or all duels");
        }
        int number = duelCount;
        Duel begun = new Duel(one, other, judge, paper, rounds, day);
        begun.drawPrompts(draw, signCount);
        duels[number] = begun;
        duelCount++;
        return number;
    }

    public int hand(int duel, int seal)
            throws IndexOutOfBoundsException, IllegalArgumentException, IllegalStateException {
        Duel fought = duelAt(duel);
        if (fought == null) {
            throw new IndexOutOfBoundsException("no such duel");
        }
        if (!isWithin(seal, 0, SEALS - 1)) {
            throw new IllegalArgumentException("seal is out of range");
        }
        Strokes model = signAt(fought.promptAt(fought.handedIn / 2));
        if (fought.isOver() || model == null) {
            throw new IllegalStateException("the duel has all rounds");
        }
        Paper used = paperAt(fought.paper);
        if (draft.count == 0 || used == null || used.sheets <= 0) {
            throw new IllegalStateException("the draft is empty, or there is no sheet");
        }
        used.sheets--;
        sheetsTaken++;
        boolean forged = seal != rightSeal(fought.nextWriter(), sheetsTaken);
        fought.add(new Writing(draft, model, used.damp, forged));
        draft.empty();
        return sheetsTaken;
    }

    public boolean look(int duel, int round, boolean other) throws IndexOutOfBoundsException {
        Duel fought = duelAt(duel);
        Writing seen = fought == null ? null : fought.writingAt(round, other);
        if (seen == null) {
            throw new IndexOutOfBoundsException("no such duel, or not handed in");
        }
        seen.found = seen.forged;
        return seen.forged;
    }

    public int appeal(int duel, int judge) throws IndexOutOfBoundsException, IllegalStateException {
        Duel fought = duelAt(duel);
        if (fought == null || judgeAt(judge) == null) {
            throw new IndexOutOfBoundsException("no such duel or judge");
        }
        if (!fought.isOver() || fought.secondJudge != NONE || judge == fought.judge) {
            throw new IllegalStateException("it goes on, was appealed, or it is its judge");
        }
        fought.secondJudge = judge;
        return winnerOf(fought);
    }

    // ---- what is asked

    public int prompt(int duel, int round) throws IndexOutOfBoundsException {
        Duel asked = duelAt(duel);
        int drawn = asked == null ? NONE : asked.promptAt(round);
        if (drawn == NONE) {
            throw new IndexOutOfBoundsException("no such duel or round");
        }
        return drawn;
    }

    public float mark(int sign, int style) throws IndexOutOfBoundsException {
        Strokes model = signAt(sign);
        Style by = styleAt(style);
        if (model == null || by == null) {
            throw new IndexOutOfBoundsException("no such sign or style");
        }
        return new Writing(draft, model, 0, false).markBy(by);
    }

    public float part(int sign, int stroke, int what)
            throws IndexOutOfBoundsException, IllegalArgumentException {
        Strokes model = signAt(sign);
        Parts parts = model == null ? null : Parts.between(draft, model, stroke, 0);
        if (parts == null) {
            throw new IndexOutOfBoundsException("no such sign or stroke");
        }
        switch (what) {
            case 0:
                return parts.nearness;
            case 1:
                return parts.slope;
            case 2:
                return parts.order;
            default:
                throw new IllegalArgumentException("what is out of range");
        }
    }

    public float marked(int duel, int round, boolean other) throws IndexOutOfBoundsException {
        Duel asked = duelAt(duel);
        Writing told = asked == null ? null : asked.writingAt(round, other);
        if (told == null) {
            throw new IndexOutOfBoundsException("no such duel, or not handed in");
        }
        return judgedMark(asked, told);
    }

    public int of(int duel, int what) throws IndexOutOfBoundsException, IllegalArgumentException {
        Duel asked = duelAt(duel);
        if (asked == null) {
            throw new IndexOutOfBoundsException("no such duel");
        }
        switch (what) {
            case 0:
                return asked.handedIn;
            case 1:
                return countRounds(asked, Duel.TO_ONE);
            case 2:
                return countRounds(asked, Duel.TO_OTHER);
            case 3:
                return winnerOf(asked);
            case 4:
                return asked.day;
            case 5:
                return asked.secondJudge;
            default:
                throw new IllegalArgumentException("what is out of range");
        }
    }

    public int paper(int paper, int what) throws IndexOutOfBoundsException, IllegalArgumentException {
        Paper asked = paperAt(paper);
        if (asked == null) {
            throw new IndexOutOfBoundsException("no such paper");
        }
        switch (what) {
            case 0:
                return asked.sheets;
            case 1:
                return asked.damp;
            default:
                throw new IllegalArgumentException("what is out of range");
        }
    }

    public int won(int writer) throws IndexOutOfBoundsException {
        if (!isWriter(writer)) {
            throw new IndexOutOfBoundsException("no such writer");
        }
        int count = 0;
        for (int k = 0; k < duels.length; k++) {
            if (duels[k] != null && winnerOf(duels[k]) == writer) {
                count++;
            }
        }
        return count;
    }

    // ---- what there is

    private static boolean isWithin(int number, int least, int most) {
        return number >= least && number <= most;
    }

    private static boolean isPlace(int x, int y) {
        return isWithin(x, 0, MOST_PLACE) && isWithin(y, 0, MOST_PLACE);
    }

    private static boolean isWriter(int writer) {
        return isWithin(writer, 0, WRITERS - 1);
    }

    private Strokes signAt(int number) {
        return number >= 0 && number < signs.length ? signs[number] : null;
    }

    private Paper paperAt(int number) {
        return number >= 0 && number < papers.length ? papers[number] : null;
    }

    private Style styleAt(int number) {
        return number >= 0 && number < styles.length ? styles[number] : null;
    }

    private Judge judgeAt(int number) {
        return number >= 0 && number < judges.length ? judges[number] : null;
    }

    private Duel duelAt(int number) {
        return number >= 0 && number < duels.length ? duels[number] : null;
    }

    // ---- judging

    private static int rightSeal(int writer, int sheet) {
        return (SEAL_OF_WRITER * writer + SEAL_OF_SHEET * sheet) % SEALS;
    }

    /** Nothing of this is kept: later weights, finds and appeals change what a round is worth. */
    private float judgedMark(Duel duel, Writing writing) {
        float first = markByJudge(judgeAt(duel.judge), duel.day, writing);
        if (duel.secondJudge == NONE) {
            return first;
        }
        float second = markByJudge(judgeAt(duel.secondJudge), duel.day, writing);
        return (first + second) / 2.0f;
    }

    private float markByJudge(Judge judge, int onDay, Writing writing) {
        float greatest = 0.0f;
        if (judge == null) {
            return greatest;
        }
        for (int k = 0; k < styles.length; k++) {
            if (styles[k] != null && judge.knowsOn(k, onDay)) {
                float mark = writing.markBy(styles[k]);
                greatest = mark > greatest ? mark : greatest;
            }
        }
        return greatest;
    }

    private int roundGoesTo(Duel duel, int round) {
        Writing one = duel.writingAt(round, false);
        Writing other = duel.writingAt(round, true);
        if (one == null || other == null || (one.found && other.found)) {
            return Duel.TO_NOBODY;
        }
        if (one.found) {
            return Duel.TO_OTHER;
        }
        if (other.found) {
            return Duel.TO_ONE;
        }
        float markOfOne = judgedMark(duel, one);
        float markOfOther = judgedMark(duel, other);
        if (markOfOne == markOfOther) {
            return Duel.TO_NOBODY;
        }
        return markOfOne > markOfOther ? Duel.TO_ONE : Duel.TO_OTHER;
    }

    private int countRounds(Duel duel, int side) {
        int count = 0;
        for (int k = 0; k < MOST_ROUNDS; k++) {
            if (roundGoesTo(duel, k) == side) {
                count++;
            }
        }
        return count;
    }

    private int winnerOf(Duel duel) {
        if (!duel.isOver()) {
            return NONE;
        }
        int lead = 0;
        for (int k = 0; k < MOST_ROUNDS; k++) {
            lead += roundGoesTo(duel, k);
        }
        if (lead == 0) {
            return NONE;
        }
        return lead > 0 ? duel.one : duel.other;
    }

    // ---- what the arena is made of

    private static final class Stroke {
        final int x;
        final int y;
        final int endX;
        final int endY;

        Stroke(int x, int y, int endX, int endY) {
            this.x = x;
            this.y = y;
            this.endX = endX;
            this.endY = endY;
        }

        float nearnessTo(Stroke model, int damp) {
            int apart = Math.abs(x - model.x)
                    + Math.abs(y - model.y)
                    + Math.abs(endX - model.endX)
                    + Math.abs(endY - model.endY);
            float near = 10.0f - (float) apart / 10.0f;
            near = near < 0.0f ? 0.0f : near;
            return near * (1.0f - (float) damp / 200.0f);
        }

        float slopeTo(Stroke model) {
            float own = (float) squaredWay();
            float models = (float) model.squaredWay();
            if (own <= 0.0f || models <= 0.0f) {
                return 0.0f;
            }
            float p = (float) ((endX - x) * (model.endX - model.x) + (endY - y) * (model.endY - model.y));
            float amount = p < 0.0f ? -p : p;
            float slope = p * amount / own / models * 10.0f;
            return slope < 0.0f ? 0.0f : slope;
        }

        private int squaredWay() {
            return (endX - x) * (endX - x) + (endY - y) * (endY - y);
        }
    }

    /** A row of strokes: the draft, or a sign. */
    private static final class Strokes {
        private final Stroke[] row = new Stroke[MOST_DRAFTED];
        int count;

        void add(Stroke stroke) {
            if (count >= 0 && count < row.length) {
                row[count] = stroke;
                count++;
            }
        }

        void empty() {
            count = 0;
        }

        Stroke at(int number) {
            return number >= 0 && number < count && number < row.length ? row[number] : null;
        }
    }

    /** The parts of the mark of one stroke. */
    private static final class Parts {
        final float nearness;
        final float slope;
        final float order;

        private Parts(float nearness, float slope, float order) {
            this.nearness = nearness;
            this.slope = slope;
            this.order = order;
        }

        /** Null where the writing or the model has no such stroke. */
        static Parts between(Strokes writing, Strokes model, int number, int damp) {
            Stroke written = writing.at(number);
            Stroke due = model.at(number);
            if (written == null || due == null) {
                return null;
            }
            float order = writing.count == model.count ? 10.0f : 0.0f;
            return new Parts(written.nearnessTo(due, damp), written.slopeTo(due), order);
        }

        float markBy(Style style) {
            float sum = 0.0f;
            sum += (float) style.nearness * nearness;
            sum += (float) style.slope * slope;
            sum += (float) style.order * order;
            return sum / 100.0f;
        }
    }

    /** Keeps parts and not strokes: sign and damp stay what they were then, only weights change. */
    private static final class Writing {
        private final Parts[] parts = new Parts[MOST_SIGN_STROKES];
        private final int modelStrokes;
        final boolean forged;
        boolean found;

        Writing(Strokes strokes, Strokes model, int damp, boolean forged) {
            this.modelStrokes = model.count;
            this.forged = forged;
            for (int k = 0; k < parts.length; k++) {
                parts[k] = Parts.between(strokes, model, k, damp);
            }
        }

        float markBy(Style style) {
            if (modelStrokes <= 0) {
                return 0.0f;
            }
            float sum = 0.0f;
            for (int k = 0; k < parts.length; k++) {
                if (parts[k] != null) {
                    sum += parts[k].markBy(style);
                }
            }
            return sum / (float) modelStrokes;
        }
    }

    private static final class Paper {
        int sheets;
        int damp;
        int dailyRise;

        /** The rise is the same on all of these days, so holding the damp once is holding it daily. */
        void age(int days) {
            damp = Math.max(0, Math.min(MOST_DAMP, damp + days * dailyRise));
        }
    }

    private static final class Style {
        int nearness;
        int slope;
        int order;
    }

    private static final class Judge {
        private final int[] learnedOn = new int[STYLES];

        Judge() {
            for (int k = 0; k < learnedOn.length; k++) {
                learnedOn[k] = NONE;
            }
        }

        boolean knowsOn(int style, int day) {
            return style >= 0
                    && style < learnedOn.length
                    && learnedOn[style] != NONE
                    && learnedOn[style] <= day;
        }

        void takeUp(int style, int day) {
            if (style >= 0 && style < learnedOn.length) {
                learnedOn[style] = day;
            }
        }

        int countKnown() {
            int count = 0;
            for (int k = 0; k < learnedOn.length; k++) {
                if (learnedOn[k] != NONE) {
                    count++;
                }
            }
            return count;
        }
    }

    private static final class Duel {
        /** Whom a round goes to; chosen so that their sum tells who leads. */
        static final int TO_ONE = 1;
        static final int TO_NOBODY = 0;
        static final int TO_OTHER = -1;

        final int one;
        final int other;
        final int judge;
        final int paper;
        final int day;
        private final int rounds;
        private final int[] prompts = new int[MOST_ROUNDS];
        private final Writing[] writings = new Writing[2 * MOST_ROUNDS];
        int handedIn;
        int secondJudge = NONE;

        Duel(int one, int other, int judge, int paper, int rounds, int day) {
            this.one = one;
            this.other = other;
            this.judge = judge;
            this.paper = paper;
            this.rounds = rounds;
            this.day = day;
        }

        void drawPrompts(int draw, int signs) {
            for (int k = 0; k < prompts.length; k++) {
                prompts[k] = k < rounds && signs > 0 ? (draw + DRAW_STEP * k) % signs : NONE;
            }
        }

        int promptAt(int round) {
            return round >= 0 && round < prompts.length ? prompts[round] : NONE;
        }

        boolean isOver() {
            return handedIn >= 2 * rounds;
        }

        int nextWriter() {
            return handedIn % 2 == 0 ? one : other;
        }

        void add(Writing writing) {
            if (handedIn >= 0 && handedIn < writings.length) {
                writings[handedIn] = writing;
                handedIn++;
            }
        }

        Writing writingAt(int round, boolean ofOther) {
            if (round < 0 || round >= MOST_ROUNDS) {
                return null;
            }
            int number = 2 * round + (ofOther ? 1 : 0);
            return number < writings.length ? writings[number] : null;
        }
    }
}
