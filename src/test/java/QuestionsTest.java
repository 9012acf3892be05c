/** Promises 14 to 20: prompt, mark, part, marked, of, paper, won. */
public final class QuestionsTest {
    private static final int[] NO_DUEL = {-1, 1, 12, Integer.MIN_VALUE, Integer.MAX_VALUE};
    private static final int[] NO_SIGN = {-1, 2, 6, Integer.MIN_VALUE, Integer.MAX_VALUE};
    private static final int[] NO_STYLE = {-1, 4, Integer.MIN_VALUE, Integer.MAX_VALUE};

    private QuestionsTest() {
    }

    public static void main(String[] args) {
        Check check = new Check("QuestionsTest");
        promise14Prompt(check);
        promise14Wrong(check);
        promise15Mark(check);
        promise15FewerAndMoreStrokes(check);
        promise15Wrong(check);
        promise16Nearness(check);
        promise16Slope(check);
        promise16SlopeOfShortAndSteep(check);
        promise16Order(check);
        promise16Wrong(check);
        promise17GreatestOfKnownStyles(check);
        promise17WeightsOfNow(check);
        promise17PromptOfTheRound(check);
        promise17Wrong(check);
        promise18Of(check);
        promise18Rounds(check);
        promise18Wrong(check);
        promise19Paper(check);
        promise19Wrong(check);
        promise20Won(check);
        promise20ChangesLater(check);
        promise20Wrong(check);
        check.end();
    }

    private static void promise14Prompt(Check check) {
        InkRing x = new InkRing();
        Arena.sign(x, 0, 0, 1, 1);
        x.duel(0, 1, 0, 0, 5, 999);
        for (int k = 1; k < 5; k++) {
            Arena.sign(x, 0, 0, 1, 1 + k);
        }
        x.duel(0, 1, 0, 0, 5, 999);
        x.duel(0, 1, 0, 0, 5, 0);
        Arena.sign(x, 0, 0, 9, 9);
        int[] ofDraw999 = {4, 1, 3, 0, 2};
        int[] ofDraw0 = {0, 2, 4, 1, 3};
        for (int k = 0; k < 5; k++) {
            int round = k;
            check.due("of one sign, round " + k, 0, () -> x.prompt(0, round));
            check.due("draw 999, round " + k, ofDraw999[k], () -> x.prompt(1, round));
            check.due("draw 0, round " + k, ofDraw0[k], () -> x.prompt(2, round));
        }
    }

    private static void promise14Wrong(Check check) {
        InkRing x = Arena.plain();
        x.duel(0, 1, 0, 0, 3, 0);
        check.due("the last round", 0, () -> x.prompt(0, 2));
        for (int bad : new int[] {-1, 3, 4, 5, Integer.MIN_VALUE, Integer.MAX_VALUE}) {
            check.due("round " + bad, Check.NO_SUCH, () -> x.prompt(0, bad));
        }
        for (int bad : NO_DUEL) {
            check.due("duel " + bad, Check.NO_SUCH, () -> x.prompt(bad, 0));
        }
    }

    private static void promise15Mark(Check check) {
        InkRing x = new InkRing();
        Arena.sign(x, 10, 10, 60, 10, 10, 50, 60, 50);
        x.style(2, 50, 30, 20);
        Arena.draft(x, 12, 11, 60, 14, 60, 50, 10, 50);
        float slope = 5760000.0f / 2313.0f / 2500.0f * 10.0f;
        float first = (50.0f * (10.0f - 7.0f / 10.0f) + 30.0f * slope + 20.0f * 10.0f) / 100.0f;
        float second = (50.0f * 0.0f + 30.0f * 0.0f + 20.0f * 10.0f) / 100.0f;
        check.due("both strokes", (first + second) / 2.0f, () -> x.mark(0, 2));
        x.rise(0, 10);
        x.rise(1, 10);
        x.rise(2, 10);
        x.pass(10);
        check.due("on paper that is not damp", (first + second) / 2.0f, () -> x.mark(0, 2));
        check.due("nobody needs to know the style; without weights", 0.0f, () -> x.mark(0, 0));
        check.due("the draft stays", 2, x::clear);
    }

    private static void promise15FewerAndMoreStrokes(Check check) {
        InkRing x = new InkRing();
        Arena.sign(x, 0, 0, 10, 0, 0, 9, 9, 0);
        x.style(0, 100, 0, 0);
        x.style(1, 0, 0, 100);
        check.due("an empty draft", 0.0f, () -> x.mark(0, 0));
        check.due("an empty draft by order", 0.0f, () -> x.mark(0, 1));
        Arena.draft(x, 0, 0, 10, 0);
        check.due("one of two strokes", 5.0f, () -> x.mark(0, 0));
        check.due("one of two strokes by order", 0.0f, () -> x.mark(0, 1));
        Arena.draft(x, 0, 9, 9, 0);
        check.due("two of two strokes", 10.0f, () -> x.mark(0, 0));
        check.due("two of two strokes by order", 10.0f, () -> x.mark(0, 1));
        Arena.draft(x, 0, 0, 10, 0, 0, 9, 9, 0);
        check.due("four for two strokes", 10.0f, () -> x.mark(0, 0));
        check.due("four for two strokes by order", 0.0f, () -> x.mark(0, 1));
        Arena.draftOf(x, 4);
        check.due("eight for two strokes", 10.0f, () -> x.mark(0, 0));
    }

    private static void promise15Wrong(Check check) {
        InkRing x = new InkRing();
        Arena.sign(x, 0, 0, 10, 0);
        Arena.sign(x, 0, 0, 10, 0);
        for (int bad : NO_SIGN) {
            check.due("sign " + bad, Check.NO_SUCH, () -> x.mark(bad, 0));
        }
        for (int bad : NO_STYLE) {
            check.due("style " + bad, Check.NO_SUCH, () -> x.mark(0, bad));
        }
        check.due("the last of both", 0.0f, () -> x.mark(1, 3));
    }

    private static void promise16Nearness(Check check) {
        InkRing x = new InkRing();
        Arena.sign(x, 50, 50, 60, 60);
        Arena.draft(x, 50, 50, 60, 60);
        check.due("alike", 10.0f, () -> x.part(0, 0, 0));
        x.clear();
        Arena.draft(x, 47, 51, 65, 53);
        check.due("3, 1, 5 and 7 apart", 10.0f - 16.0f / 10.0f, () -> x.part(0, 0, 0));
        x.clear();
        Arena.draft(x, 25, 25, 35, 36);
        check.due("99 apart", 10.0f - 99.0f / 10.0f, () -> x.part(0, 0, 0));
        x.clear();
        Arena.draft(x, 25, 25, 35, 35);
        check.due("100 apart", 0.0f, () -> x.part(0, 0, 0));
        x.clear();
        Arena.draft(x, 99, 99, 0, 0);
        check.due("218 apart", 0.0f, () -> x.part(0, 0, 0));
        x.rise(0, 10);
        x.pass(5);
        x.clear();
        Arena.draft(x, 50, 50, 60, 61);
        check.due("on paper that is not damp", 10.0f - 1.0f / 10.0f, () -> x.part(0, 0, 0));
    }

    private static void promise16Slope(Check check) {
        InkRing x = new InkRing();
        Arena.sign(x, 10, 20, 40, 60);
        Arena.draft(x, 0, 0, 3, 4, 9, 9, 6, 5);
        check.due("the same way, shorter", 10.0f, () -> x.part(0, 0, 1));
        x.clear();
        Arena.draft(x, 9, 9, 6, 5);
        check.due("the way back", 0.0f, () -> x.part(0, 0, 1));
        x.clear();
        Arena.draft(x, 0, 30, 40, 0);
        check.due("across", 0.0f, () -> x.part(0, 0, 1));
        x.clear();
        Arena.draft(x, 0, 0, 99, 0);
        check.due("level", 8820900.0f / 9801.0f / 2500.0f * 10.0f, () -> x.part(0, 0, 1));
        x.clear();
        Arena.draft(x, 1, 2, 98, 95);
        float p = 6630.0f;
        check.due("another way", p * p / 18058.0f / 2500.0f * 10.0f, () -> x.part(0, 0, 1));
    }

    private static void promise16SlopeOfShortAndSteep(Check check) {
        InkRing x = new InkRing();
        Arena.sign(x, 0, 0, 1, 0);
        Arena.sign(x, 0, 0, 5, 0);
        Arena.draft(x, 7, 7, 8, 7);
        check.due("both as short as can be", 10.0f, () -> x.part(0, 0, 1));
        check.due("a short one for a longer one", 10.0f, () -> x.part(1, 0, 1));
        x.clear();
        Arena.draft(x, 7, 7, 12, 7);
        check.due("a longer one for a short one", 10.0f, () -> x.part(0, 0, 1));
        x.clear();
        Arena.draft(x, 0, 0, 1, 99);
        check.due("nearly across", 1.0f / 9802.0f / 1.0f * 10.0f, () -> x.part(0, 0, 1));
        x.clear();
        Arena.draft(x, 1, 0, 0, 99);
        check.due("nearly across, the way back", 0.0f, () -> x.part(0, 0, 1));
    }

    private static void promise16Order(Check check) {
        InkRing x = new InkRing();
        Arena.sign(x, 10, 20, 40, 60, 1, 2, 3, 4);
        Arena.draftOf(x, 1);
        check.due("one for two", 0.0f, () -> x.part(0, 0, 2));
        Arena.draftOf(x, 1);
        check.due("two for two", 10.0f, () -> x.part(0, 0, 2));
        check.due("two for two, stroke 1", 10.0f, () -> x.part(0, 1, 2));
        Arena.draftOf(x, 1);
        check.due("three for two", 0.0f, () -> x.part(0, 1, 2));
    }

    private static void promise16Wrong(Check check) {
        InkRing x = new InkRing();
        Arena.sign(x, 10, 20, 40, 60, 1, 2, 3, 4);
        Arena.sign(x, 10, 20, 40, 60);
        check.due("an empty draft", Check.NO_SUCH, () -> x.part(0, 0, 0));
        check.due("an empty draft, what", Check.NO_SUCH, () -> x.part(0, 0, 3));
        Arena.draftOf(x, 1);
        check.due("no stroke 1 of the draft", Check.NO_SUCH, () -> x.part(0, 1, 0));
        Arena.draftOf(x, 1);
        check.due("stroke 1 of both", 10.0f, () -> x.part(0, 1, 2));
        check.due("no stroke 1 of the sign", Check.NO_SUCH, () -> x.part(1, 1, 0));
        for (int bad : new int[] {-1, 2, 8, Integer.MIN_VALUE, Integer.MAX_VALUE}) {
            check.due("stroke " + bad, Check.NO_SUCH, () -> x.part(0, bad, 0));
        }
        for (int bad : NO_SIGN) {
            check.due("sign " + bad, Check.NO_SUCH, () -> x.part(bad, 0, 0));
        }
        for (int bad : new int[] {-1, 3, Integer.MIN_VALUE, Integer.MAX_VALUE}) {
            check.due("what " + bad, Check.WRONG, () -> x.part(0, 0, bad));
            check.due("stroke and what " + bad, Check.NO_SUCH, () -> x.part(0, 2, bad));
        }
    }

    private static void promise17GreatestOfKnownStyles(Check check) {
        InkRing x = new InkRing();
        Arena.sign(x, 0, 0, 50, 0);
        x.style(0, 100, 0, 0);
        x.style(1, 0, 0, 90);
        x.style(2, 100, 100, 100);
        x.buy(0, 100);
        x.learn(1, 0);
        x.duel(0, 1, 1, 0, 1, 0);
        x.duel(0, 1, 0, 0, 1, 0);
        Arena.handOff(x, 0, 0, 20);
        Arena.handOff(x, 1, 0, 20);
        check.due("of one style", 6.0f, () -> x.marked(0, 0, false));
        x.learn(1, 1);
        check.due("of two, learned later on its day", 9.0f, () -> x.marked(0, 0, false));
        x.pass(1);
        x.learn(1, 2);
        x.learn(0, 2);
        check.due("of three, the third a day later", 9.0f, () -> x.marked(0, 0, false));
        check.due("of none on its day", 0.0f, () -> x.marked(1, 0, false));
        x.duel(0, 1, 1, 0, 1, 0);
        Arena.handOff(x, 2, 0, 20);
        check.due("of three, known that day", 26.0f, () -> x.marked(2, 0, false));
        x.style(1, 0, 0, 0);
        check.due("the first again", 6.0f, () -> x.marked(0, 0, false));
    }

    private static void promise17WeightsOfNow(Check check) {
        InkRing x = Arena.plain();
        x.duel(0, 1, 0, 0, 1, 0);
        Arena.handOff(x, 0, 0, 0);
        Arena.hand(x, 0, 0, 0, 1, 50, 1, 0, 0, 50, 0);
        check.due("by nearness", 1, () -> x.of(0, 1));
        check.due("marked by nearness", 10.0f - 2.0f / 10.0f, () -> x.marked(0, 0, true));
        x.pass(50);
        x.style(0, 0, 0, 10);
        check.due("marked by order", 1.0f, () -> x.marked(0, 0, false));
        check.due("other marked by order", 0.0f, () -> x.marked(0, 0, true));
        x.style(0, 0, 100, 0);
        check.due("marked by slope", 10.0f, () -> x.marked(0, 0, true));
        check.due("alike by slope", 0, () -> x.of(0, 1));
        check.due("nobody by slope", -1, () -> x.of(0, 3));
    }

    private static void promise17PromptOfTheRound(Check check) {
        InkRing x = Arena.plain();
        Arena.sign(x, 0, 30, 50, 30);
        x.duel(0, 1, 0, 0, 2, 1);
        for (int k = 0; k < 4; k++) {
            Arena.handOff(x, 0, 0, 30);
        }
        check.due("round 0 for sign 1", 10.0f, () -> x.marked(0, 0, false));
        check.due("other's round 0 for sign 1", 10.0f, () -> x.marked(0, 0, true));
        check.due("round 1 for sign 0", 4.0f, () -> x.marked(0, 1, false));
        check.due("other's round 1 for sign 0", 4.0f, () -> x.marked(0, 1, true));
    }

    private static void promise17Wrong(Check check) {
        InkRing x = Arena.plain();
        x.duel(0, 1, 0, 0, 2, 0);
        check.due("nothing handed in", Check.NO_SUCH, () -> x.marked(0, 0, false));
        Arena.handOff(x, 0, 0, 0);
        check.due("handed in", 10.0f, () -> x.marked(0, 0, false));
        check.due("other's not", Check.NO_SUCH, () -> x.marked(0, 0, true));
        check.due("round 1 not", Check.NO_SUCH, () -> x.marked(0, 1, false));
        for (int bad : new int[] {-1, 2, 5, Integer.MIN_VALUE, Integer.MAX_VALUE}) {
            check.due("round " + bad, Check.NO_SUCH, () -> x.marked(0, bad, false));
            check.due("other's round " + bad, Check.NO_SUCH, () -> x.marked(0, bad, true));
        }
        for (int bad : NO_DUEL) {
            check.due("duel " + bad, Check.NO_SUCH, () -> x.marked(bad, 0, false));
        }
    }

    private static void promise18Of(Check check) {
        InkRing x = Arena.plain();
        x.pass(9);
        x.duel(5, 0, 0, 0, 1, 0);
        x.pass(1);
        check.due("writings", 0, () -> x.of(0, 0));
        check.due("rounds of one", 0, () -> x.of(0, 1));
        check.due("rounds of other", 0, () -> x.of(0, 2));
        check.due("winner", -1, () -> x.of(0, 3));
        check.due("day", 9, () -> x.of(0, 4));
        check.due("second judge", -1, () -> x.of(0, 5));
        Arena.handOff(x, 0, 0, 5);
        check.due("one writing", 1, () -> x.of(0, 0));
        check.due("no round by one writing", 0, () -> x.of(0, 1));
        check.due("no winner by one writing", -1, () -> x.of(0, 3));
        Arena.handOff(x, 0, 0, 0);
        check.due("two writings", 2, () -> x.of(0, 0));
        check.due("no rounds of one", 0, () -> x.of(0, 1));
        check.due("a round of other", 1, () -> x.of(0, 2));
        check.due("the writer 0 wins", 0, () -> x.of(0, 3));
        x.appeal(0, 2);
        check.due("appealed", 2, () -> x.of(0, 5));
        check.due("day as before", 9, () -> x.of(0, 4));
    }

    private static void promise18Rounds(Check check) {
        InkRing x = Arena.plain();
        x.duel(5, 6, 0, 0, 5, 0);
        int[] offOfOne = {0, 3, 0, 2, 4};
        int[] offOfOther = {1, 2, 0, 5, 4};
        for (int k = 0; k < 5; k++) {
            check.due("goes on before round " + k, -1, () -> x.of(0, 3));
            Arena.handOff(x, 0, 0, offOfOne[k]);
            Arena.handOff(x, 0, 0, offOfOther[k]);
        }
        check.due("ten writings", 10, () -> x.of(0, 0));
        check.due("two rounds of one", 2, () -> x.of(0, 1));
        check.due("one round of other", 1, () -> x.of(0, 2));
        check.due("more rounds win", 5, () -> x.of(0, 3));
        x.look(0, 0, false);
        check.due("one round less", 1, () -> x.of(0, 1));
        check.due("one round more", 2, () -> x.of(0, 2));
        check.due("the other wins", 6, () -> x.of(0, 3));
    }

    private static void promise18Wrong(Check check) {
        InkRing x = Arena.plain();
        x.duel(5, 6, 0, 0, 1, 0);
        for (int bad : NO_DUEL) {
            check.due("duel " + bad, Check.NO_SUCH, () -> x.of(bad, 0));
            check.due("what and duel " + bad, Check.NO_SUCH, () -> x.of(bad, 6));
        }
        for (int bad : new int[] {-1, 6, Integer.MIN_VALUE, Integer.MAX_VALUE}) {
            check.due("what " + bad, Check.WRONG, () -> x.of(0, bad));
        }
    }

    private static void promise19Paper(Check check) {
        InkRing x = new InkRing();
        x.buy(1, 30);
        x.rise(1, 2);
        x.rise(2, 9);
        x.pass(4);
        int[] sheets = {0, 30, 0};
        int[] damp = {0, 8, 36};
        for (int k = 0; k < 3; k++) {
            int paper = k;
            check.due("sheets of " + k, sheets[k], () -> x.paper(paper, 0));
            check.due("damp of " + k, damp[k], () -> x.paper(paper, 1));
        }
    }

    private static void promise19Wrong(Check check) {
        InkRing x = new InkRing();
        for (int bad : new int[] {-1, 3, Integer.MIN_VALUE, Integer.MAX_VALUE}) {
            check.due("paper " + bad, Check.NO_SUCH, () -> x.paper(bad, 0));
            check.due("what and paper " + bad, Check.NO_SUCH, () -> x.paper(bad, 2));
        }
        for (int bad : new int[] {-1, 2, Integer.MIN_VALUE, Integer.MAX_VALUE}) {
            check.due("what " + bad, Check.WRONG, () -> x.paper(0, bad));
        }
    }

    private static void promise20Won(Check check) {
        InkRing x = Arena.plain();
        x.duel(7, 1, 0, 0, 2, 0);
        x.duel(1, 7, 0, 0, 1, 0);
        x.duel(7, 2, 0, 0, 1, 0);
        Arena.handOff(x, 0, 0, 0);
        Arena.handOff(x, 0, 0, 9);
        check.due("not while it goes on", 0, () -> x.won(7));
        Arena.handOff(x, 0, 0, 9);
        Arena.handOff(x, 0, 0, 9);
        check.due("one duel", 1, () -> x.won(7));
        Arena.handOff(x, 1, 0, 9);
        Arena.handOff(x, 1, 0, 0);
        check.due("two duels", 2, () -> x.won(7));
        Arena.handOff(x, 2, 0, 9);
        Arena.handOff(x, 2, 0, 9);
        check.due("none more by a duel of nobody", 2, () -> x.won(7));
        check.due("none of 1", 0, () -> x.won(1));
        check.due("none of 2", 0, () -> x.won(2));
        check.due("none of 0, who wrote nothing", 0, () -> x.won(0));
    }

    private static void promise20ChangesLater(Check check) {
        InkRing x = Arena.plain();
        x.duel(7, 1, 0, 0, 1, 0);
        Arena.handOff(x, 0, 0, 0);
        Arena.handOff(x, 0, 0, 9);
        check.due("won", 1, () -> x.won(7));
        x.style(0, 0, 100, 0);
        check.due("by other weights nobody's", 0, () -> x.won(7));
        x.style(0, 100, 0, 0);
        check.due("won again", 1, () -> x.won(7));
        x.look(0, 0, false);
        check.due("lost by the seal", 0, () -> x.won(7));
        check.due("won by the other", 1, () -> x.won(1));
    }

    private static void promise20Wrong(Check check) {
        InkRing x = new InkRing();
        for (int bad : new int[] {-1, 8, Integer.MIN_VALUE, Integer.MAX_VALUE}) {
            check.due("writer " + bad, Check.NO_SUCH, () -> x.won(bad));
        }
        check.due("writer 7", 0, () -> x.won(7));
    }
}
