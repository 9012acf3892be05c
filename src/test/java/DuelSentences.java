/** Promises 10 to 13: duel, hand, look, appeal. */
final class DuelSentences {
    private static final int[] ROUNDS_AND_DRAW = {1, 0};

    private DuelSentences() {
    }

    static void tell(Sentences s) {
        tellDuel(s);
        tellHand(s);
        tellLook(s);
        tellAppeal(s);
    }

    private static void tellDuel(Sentences s) {
        s.in("Promise 10: duel");
        s.holds("Begins a duel", DuelSentences::begins);
        s.holds("- `one`: 0 to 7", DuelSentences::one);
        s.holds("- `other`: another writer", DuelSentences::other);
        s.holds("- `judge`: 0 to 3", DuelSentences::judge);
        s.holds("- `paper`: 0 to 2", DuelSentences::paper);
        s.holds("- `rounds`: 1 to 5", DuelSentences::rounds);
        s.holds("- `draw`: 0 to 999", DuelSentences::draw);
        s.holds("Returns its number", DuelSentences::duelNumbers);
        s.holds("if there is no such writer, of either", DuelSentences::noSuchWriter);
        s.holds("of either, judge or paper", DuelSentences::noSuchJudgeOrPaper);
        s.holds("if both are the same", DuelSentences::bothTheSame);
        s.holds("or rounds or draw is out of range", DuelSentences::roundsOrDrawOutOfRange);
        s.holds("Throws `IllegalStateException` if there are no signs", DuelSentences::noSigns);
        s.holds("or 12 duels", DuelSentences::twelveDuels);
    }

    private static void tellHand(Sentences s) {
        s.in("Promise 11: hand");
        s.holds("Hands the draft in, by who is next", DuelSentences::whoIsNext);
        s.holds("it is empty then", DuelSentences::emptyThen);
        s.holds("- `duel`: its number", DuelSentences::handsInTheDuel);
        s.holds("- `seal`: 0 to 999", DuelSentences::sealRange);
        s.holds("Returns the sheet", DuelSentences::returnsTheSheet);
        s.holds("Throws `IndexOutOfBoundsException` if there is no such duel", DuelSentences::handNoSuchDuel);
        s.holds("Throws `IllegalArgumentException` if seal is out of range", DuelSentences::sealOutOfRange);
        s.holds("if the duel has all rounds", DuelSentences::hasAllRounds);
        s.holds("the draft is empty", DuelSentences::emptyDraft);
        s.holds("or there is no sheet of its paper", DuelSentences::noSheet);
    }

    private static void tellLook(Sentences s) {
        s.in("Promise 12: look");
        s.holds("a forged one is found by that", DuelSentences::foundByThat);
        s.holds("- `duel`: its number", DuelSentences::looksInTheDuel);
        s.holds("- `round`: from 0", DuelSentences::looksInTheRound);
        s.holds("- `other`: whether that of the other writer is looked at", DuelSentences::looksAtTheOther);
        s.holds("Returns whether it is forged", DuelSentences::whetherForged);
        s.holds("if there is no such duel", DuelSentences::lookNoSuchDuel);
        s.holds("or it was not handed in in that round", DuelSentences::notHandedIn);
    }

    private static void tellAppeal(Sentences s) {
        s.in("Promise 13: appeal");
        s.holds("Appeals a duel", DuelSentences::appeals);
        s.holds("- `duel`: its number", DuelSentences::appealsTheDuel);
        s.holds("- `judge`: the second one", DuelSentences::secondJudges);
        s.holds("Returns who wins it then; NONE", DuelSentences::whoWinsThen);
        s.holds("if there is no such duel or judge", DuelSentences::appealNoSuch);
        s.holds("if it has not all rounds", DuelSentences::notAllRounds);
        s.holds("was appealed", DuelSentences::wasAppealed);
        s.holds("or judge is its judge", DuelSentences::judgeIsItsJudge);
    }

    /** Begins a duel of one round. */
    private static int duel(InkRing x, int one, int other, int judge, int paper) {
        return x.duel(one, other, judge, paper, ROUNDS_AND_DRAW[0], ROUNDS_AND_DRAW[1]);
    }

    // ---- duel

    private static void begins(Check check) {
        InkRing x = Arena.plain();
        x.pass(8);
        check.due("a duel", 0, () -> x.duel(5, 2, 3, 1, 4, 0));
        int[] due = {0, 0, 0, -1, 8, -1};
        for (int k = 0; k < due.length; k++) {
            int what = k;
            check.due("what " + k + " of one begun", due[k], () -> x.of(0, what));
        }
        check.due("no sheet is taken by that", 100, () -> x.paper(0, 0));
        check.due("a draft is not needed", 0, x::clear);
    }

    private static void one(Check check) {
        for (int k = 0; k < 8; k++) {
            InkRing x = Arena.plain();
            int writer = k;
            check.due("one " + k, 0, () -> duel(x, writer, writer == 0 ? 1 : 0, 0, 0));
            Arena.handOff(x, 0, Arena.seal(writer, 1), 0);
            Arena.handOff(x, 0, 0, 9);
            check.due("the winner", writer, () -> x.of(0, 3));
            check.due("the right seal is that of " + k, false, () -> x.look(0, 0, false));
        }
        Twins.refusedBeyond(check, "one", Check.NO_SUCH, 0, 7, Arena::plain, (x, n) -> duel(x, n, 1, 0, 0));
    }

    private static void other(Check check) {
        for (int k = 0; k < 8; k++) {
            InkRing x = Arena.plain();
            int writer = k;
            check.due("other " + k, 0, () -> duel(x, writer == 0 ? 1 : 0, writer, 0, 0));
            Arena.handOff(x, 0, 0, 9);
            Arena.handOff(x, 0, Arena.seal(writer, 2), 0);
            check.due("the winner", writer, () -> x.of(0, 3));
            check.due("the right seal is that of " + k, false, () -> x.look(0, 0, true));
            Twins.refused(check, "not another", Check.WRONG, Arena::plain, y -> duel(y, writer, writer, 0, 0));
        }
        Twins.refusedBeyond(check, "other", Check.NO_SUCH, 0, 7, Arena::plain, (x, n) -> duel(x, 1, n, 0, 0));
    }

    private static void judge(Check check) {
        for (int k = 0; k < 4; k++) {
            InkRing x = new InkRing();
            int judge = k;
            Arena.sign(x, 0, 0, 50, 0);
            x.style(0, 0, 0, 100);
            x.buy(0, 10);
            x.learn(judge, 0);
            check.due("judge " + k, 0, () -> duel(x, 0, 1, judge, 0));
            check.due("another judge", 1, () -> duel(x, 0, 1, (judge + 1) % 4, 0));
            Arena.handOff(x, 0, 0, 0);
            Arena.handOff(x, 1, 0, 0);
            check.due("the mark by judge " + k, 10.0f, () -> x.marked(0, 0, false));
            check.due("the mark by another judge", 0.0f, () -> x.marked(1, 0, false));
        }
        Twins.refusedBeyond(check, "judge", Check.NO_SUCH, 0, 3, Arena::plain, (x, n) -> duel(x, 0, 1, n, 0));
    }

    private static void paper(Check check) {
        for (int k = 0; k < 3; k++) {
            InkRing x = new InkRing();
            int paper = k;
            Arena.sign(x, 0, 0, 50, 0);
            x.buy(paper, 7);
            check.due("paper " + k, 0, () -> duel(x, 0, 1, 0, paper));
            check.due("hand on " + k, 1, () -> Arena.handOff(x, 0, 0, 0));
            check.due("sheets left of " + k, 6, () -> x.paper(paper, 0));
        }
        Twins.refusedBeyond(check, "paper", Check.NO_SUCH, 0, 2, Arena::plain, (x, n) -> duel(x, 0, 1, 0, n));
    }

    private static void rounds(Check check) {
        for (int k = 1; k <= 5; k++) {
            InkRing x = Arena.plain();
            int rounds = k;
            check.due(k + " rounds", 0, () -> x.duel(0, 1, 0, 0, rounds, 0));
            for (int sheet = 1; sheet < 2 * rounds; sheet++) {
                Arena.handOff(x, 0, 0, sheet % 2);
                check.due("goes on", -1, () -> x.of(0, 3));
            }
            Arena.handOff(x, 0, 0, 0);
            check.due("is over", 1, () -> x.of(0, 3));
            check.due("all rounds to the other", rounds, () -> x.of(0, 2));
        }
        Twins.NumberedCall call = (x, n) -> x.duel(0, 1, 0, 0, n, 0);
        Twins.refusedBeyond(check, "rounds", Check.WRONG, 1, 5, Arena::plain, call);
    }

    private static void draw(Check check) {
        InkRing x = new InkRing();
        for (int k = 0; k < 5; k++) {
            Arena.sign(x, 0, 0, 50, k);
        }
        int[] draws = {0, 1, 998, 999};
        int[] prompts = {0, 1, 3, 4};
        for (int k = 0; k < draws.length; k++) {
            int number = k;
            check.due("draw " + draws[k], number, () -> x.duel(0, 1, 0, 0, 1, draws[number]));
            check.due("prompt of draw " + draws[k], prompts[k], () -> x.prompt(number, 0));
        }
        Twins.NumberedCall call = (y, n) -> y.duel(0, 1, 0, 0, 1, n);
        Twins.refusedBeyond(check, "draw", Check.WRONG, 0, 999, Arena::plain, call);
    }

    private static void duelNumbers(Check check) {
        InkRing x = Arena.plain();
        for (int k = 0; k < 12; k++) {
            int number = k;
            check.due("duel " + k, number, () -> duel(x, number % 8, (number + 1) % 8, 0, 0));
            check.due("a refused one between", Check.WRONG, () -> duel(x, 1, 1, 0, 0));
            x.pass(1);
        }
        for (int k = 0; k < 12; k++) {
            int number = k;
            check.due("the day of duel " + k, number, () -> x.of(number, 4));
        }
    }

    private static void noSuchWriter(Check check) {
        for (int k = 0; k < 8; k += 7) {
            int writer = k;
            Twins.NumberedCall asOne = (x, n) -> duel(x, n, writer, 0, 0);
            Twins.refusedBeyond(check, "one", Check.NO_SUCH, 0, 7, Twins::midway, asOne);
            Twins.NumberedCall asOther = (x, n) -> duel(x, writer, n, 0, 0);
            Twins.refusedBeyond(check, "other", Check.NO_SUCH, 0, 7, Twins::midway, asOther);
        }
        Twins.refusedBeyond(check, "both, the same", Check.NO_SUCH, 0, 7, Twins::midway, (x, n) -> duel(x, n, n, 0, 0));
    }

    private static void noSuchJudgeOrPaper(Check check) {
        Twins.refusedBeyond(check, "judge", Check.NO_SUCH, 0, 3, Twins::midway, (x, n) -> duel(x, 0, 1, n, 0));
        Twins.refusedBeyond(check, "judge, same", Check.NO_SUCH, 0, 3, Twins::midway, (x, n) -> duel(x, 1, 1, n, 0));
        Twins.refusedBeyond(check, "paper", Check.NO_SUCH, 0, 2, Twins::midway, (x, n) -> duel(x, 0, 1, 0, n));
        Twins.refusedBeyond(check, "paper, same", Check.NO_SUCH, 0, 2, Twins::midway, (x, n) -> duel(x, 1, 1, 0, n));
        Twins.refusedBeyond(check, "paper, twelve", Check.NO_SUCH, 0, 2, Twins::full, (x, n) -> duel(x, 0, 1, 0, n));
    }

    private static void bothTheSame(Check check) {
        for (int k = 0; k < 8; k++) {
            int writer = k;
            Twins.refused(check, "both " + k, Check.WRONG, Twins::midway, x -> duel(x, writer, writer, 0, 0));
            Twins.refused(check, "both " + k + ", twelve", Check.WRONG, Twins::full, x -> duel(x, writer, writer, 3, 2));
            Twins.refused(check, "both " + k + ", no signs", Check.WRONG, InkRing::new, x -> duel(x, writer, writer, 0, 0));
        }
        check.due("next to each other", 3, () -> duel(Twins.midway(), 6, 7, 0, 0));
        check.due("the other way about", 3, () -> duel(Twins.midway(), 7, 6, 0, 0));
    }

    private static void roundsOrDrawOutOfRange(Check check) {
        for (Twins.Making making : new Twins.Making[] {InkRing::new, Twins::midway, Twins::full}) {
            Twins.refusedBeyond(check, "rounds", Check.WRONG, 1, 5, making, (x, n) -> x.duel(0, 1, 0, 0, n, 999));
            Twins.refusedBeyond(check, "draw", Check.WRONG, 0, 999, making, (x, n) -> x.duel(0, 1, 0, 0, 5, n));
        }
        Twins.refused(check, "both", Check.WRONG, Twins::midway, x -> x.duel(0, 1, 0, 0, 6, 1000));
    }

    private static void noSigns(Check check) {
        Twins.refused(check, "new", Check.NOT_NOW, InkRing::new, x -> duel(x, 0, 1, 0, 0));
        Twins.Making drafted = () -> {
            InkRing x = new InkRing();
            Arena.draftOf(x, 6);
            x.buy(0, 100);
            return x;
        };
        Twins.refused(check, "drafted, no sign", Check.NOT_NOW, drafted, x -> duel(x, 0, 1, 0, 0));
        InkRing x = drafted.make();
        x.sign();
        check.due("one sign", 0, () -> duel(x, 0, 1, 0, 0));
    }

    private static InkRing duels(int count, boolean over) {
        InkRing x = Arena.plain();
        for (int k = 0; k < count; k++) {
            duel(x, 0, 1, 0, 0);
            if (over) {
                Arena.handOff(x, k, 0, 0);
                Arena.handOff(x, k, 0, 0);
            }
        }
        return x;
    }

    private static void twelveDuels(Check check) {
        check.due("a twelfth", 11, () -> duel(duels(11, false), 2, 3, 0, 0));
        check.due("a twelfth, eleven are over", 11, () -> duel(duels(11, true), 2, 3, 0, 0));
        Twins.refused(check, "a thirteenth", Check.NOT_NOW, () -> duels(12, false), x -> duel(x, 2, 3, 0, 0));
        Twins.refused(check, "a thirteenth, all are over", Check.NOT_NOW, () -> duels(12, true), x -> duel(x, 2, 3, 0, 0));
    }

    // ---- hand

    private static void whoIsNext(Check check) {
        InkRing x = Arena.plain();
        x.duel(7, 3, 0, 0, 2, 0);
        x.duel(3, 7, 0, 0, 1, 0);
        int[] duels = {0, 1, 0, 0, 1, 0};
        int[] writers = {7, 3, 3, 7, 7, 3};
        int[] handedIn = {1, 1, 2, 3, 2, 4};
        for (int k = 0; k < duels.length; k++) {
            int number = k;
            Arena.handOff(x, duels[k], Arena.seal(writers[k], k + 1), k);
            check.due("writings then", handedIn[k], () -> x.of(duels[number], 0));
            int at = handedIn[k] - 1;
            check.due("by writer " + writers[k], false, () -> x.look(duels[number], at / 2, at % 2 == 1));
        }
    }

    private static void emptyThen(Check check) {
        for (int k = 1; k <= 8; k++) {
            InkRing x = Arena.plain();
            duel(x, 0, 1, 0, 0);
            Arena.draftOf(x, k);
            x.hand(0, 0);
            check.due(k + " handed in, hand again", Check.NOT_NOW, () -> x.hand(0, 0));
            check.due(k + " handed in, part", Check.NO_SUCH, () -> x.part(0, 0, 0));
            check.due(k + " handed in, clear", 0, x::clear);
            check.due(k + " handed in, stroke", 1, () -> x.stroke(1, 2, 3, 4));
        }
        InkRing x = Arena.plain();
        duel(x, 0, 1, 0, 0);
        Arena.handOff(x, 0, 0, 5);
        Arena.draft(x, 99, 99, 0, 0);
        check.due("the next draft doesn't change what was handed in", 9.0f, () -> x.marked(0, 0, false));
    }

    private static void handsInTheDuel(Check check) {
        for (int k : new int[] {0, 5, 11}) {
            InkRing x = duels(12, false);
            check.due("hand in duel " + k, 1, () -> Arena.handOff(x, k, 0, 0));
            for (int each = 0; each < 12; each++) {
                int duel = each;
                check.due("writings of duel " + duel, duel == k ? 1 : 0, () -> x.of(duel, 0));
            }
        }
    }

    private static void sealRange(Check check) {
        for (int seal : new int[] {0, 1, 36, 37, 38, 998, 999}) {
            InkRing x = duels(1, false);
            check.due("seal " + seal, 1, () -> Arena.handOff(x, 0, seal, 0));
            check.due("forged by " + seal, seal != 37, () -> x.look(0, 0, false));
        }
        Twins.refusedBeyond(check, "seal", Check.WRONG, 0, 999, Twins::midway, (x, n) -> x.hand(1, n));
    }

    private static void returnsTheSheet(Check check) {
        InkRing x = Arena.plain();
        x.buy(1, 10);
        x.buy(2, 10);
        for (int paper = 0; paper < 3; paper++) {
            x.duel(0, 1, 0, paper, 5, 0);
        }
        int sheet = 0;
        for (int k = 0; k < 10; k++) {
            for (int duel = 0; duel < 3; duel++) {
                sheet++;
                int due = sheet;
                int in = duel;
                check.due("of paper " + duel, due, () -> Arena.handOff(x, in, 0, 0));
            }
        }
        check.due("all sheets of 1 are taken", 0, () -> x.paper(1, 0));
        check.due("bought anew", 100, () -> x.buy(1, 100));
        duel(x, 0, 1, 0, 1);
        check.due("the sheets are still counted on", 31, () -> Arena.handOff(x, 3, 0, 0));
    }

    private static void handNoSuchDuel(Check check) {
        Twins.refusedBeyond(check, "no duels", Check.NO_SUCH, 0, -1, DuelSentences::drafted, (x, n) -> x.hand(n, 0));
        Twins.refusedBeyond(check, "three duels", Check.NO_SUCH, 0, 2, Twins::midway, (x, n) -> x.hand(n, 0));
        Twins.refusedBeyond(check, "twelve duels", Check.NO_SUCH, 0, 11, Twins::full, (x, n) -> x.hand(n, 999));
        Twins.refusedBeyond(check, "duel and seal", Check.NO_SUCH, 0, 11, Twins::full, (x, n) -> x.hand(n, 1000));
    }

    private static InkRing drafted() {
        InkRing x = Arena.plain();
        Arena.draftOf(x, 1);
        return x;
    }

    private static void sealOutOfRange(Check check) {
        for (int k = 0; k < 3; k++) {
            int duel = k;
            Twins.NumberedCall call = (x, n) -> x.hand(duel, n);
            Twins.refusedBeyond(check, "midway, duel " + k, Check.WRONG, 0, 999, Twins::midway, call);
        }
        Twins.Making empty = () -> duels(1, false);
        Twins.refusedBeyond(check, "empty draft", Check.WRONG, 0, 999, empty, (x, n) -> x.hand(0, n));
        Twins.Making over = () -> duels(1, true);
        Twins.refusedBeyond(check, "all rounds", Check.WRONG, 0, 999, over, (x, n) -> x.hand(0, n));
    }

    private static InkRing handedIn(int rounds, int writings) {
        InkRing x = Arena.plain();
        x.learn(1, 0);
        x.duel(2, 4, 0, 0, rounds, 0);
        for (int k = 0; k < writings; k++) {
            Arena.handOff(x, 0, 0, k);
        }
        Arena.draftOf(x, 2);
        return x;
    }

    private static void hasAllRounds(Check check) {
        for (int k = 1; k <= 5; k++) {
            int rounds = k;
            check.due("the last of " + k, 2 * rounds, () -> handedIn(rounds, 2 * rounds - 1).hand(0, 0));
            Twins.Making over = () -> handedIn(rounds, 2 * rounds);
            Twins.refused(check, "one more of " + k, Check.NOT_NOW, over, x -> x.hand(0, 0));
            int right = Arena.seal(2, 2 * rounds + 1);
            Twins.refused(check, "right seal, one more of " + k, Check.NOT_NOW, over, x -> x.hand(0, right));
        }
        check.due("a next duel goes on", 3, () -> {
            InkRing x = handedIn(1, 2);
            duel(x, 2, 4, 0, 0);
            return x.hand(1, 0);
        });
    }

    private static void emptyDraft(Check check) {
        Twins.refused(check, "nothing drafted", Check.NOT_NOW, () -> duels(1, false), x -> x.hand(0, 37));
        Twins.Making handedIn = () -> {
            InkRing x = duels(1, false);
            Arena.handOff(x, 0, 37, 0);
            return x;
        };
        Twins.refused(check, "handed in a moment ago", Check.NOT_NOW, handedIn, x -> x.hand(0, 175));
        check.due("one stroke", 1, () -> Arena.handOff(duels(1, false), 0, 37, 0));
        check.due("a full draft", 1, () -> {
            InkRing x = duels(1, false);
            Arena.draftOf(x, 8);
            return x.hand(0, 37);
        });
    }

    private static InkRing sheetsOf2(int sheets) {
        InkRing x = Arena.plain();
        x.buy(1, 100);
        for (int k = 0; k < sheets / 100; k++) {
            x.buy(2, 100);
        }
        if (sheets % 100 > 0) {
            x.buy(2, sheets % 100);
        }
        x.duel(0, 1, 0, 2, 5, 0);
        Arena.draftOf(x, 1);
        return x;
    }

    private static void noSheet(Check check) {
        Twins.refused(check, "no sheet, others have some", Check.NOT_NOW, () -> sheetsOf2(0), x -> x.hand(0, 37));
        InkRing x = sheetsOf2(1);
        check.due("one sheet", 1, () -> x.hand(0, 37));
        check.due("none left", 0, () -> x.paper(2, 0));
        Arena.draftOf(x, 1);
        check.due("no second sheet", Check.NOT_NOW, () -> x.hand(0, 175));
        check.due("no less than none", 0, () -> x.paper(2, 0));
        check.due("one writing", 1, () -> x.of(0, 0));
        x.buy(2, 1);
        check.due("bought again", 2, () -> x.hand(0, 175));
        InkRing y = sheetsOf2(1000);
        check.due("the most sheets", 1, () -> y.hand(0, 37));
        check.due("one less than the most", 999, () -> y.paper(2, 0));
    }

    // ---- look

    private static InkRing forgedBoth() {
        InkRing x = Arena.plain();
        x.duel(2, 4, 0, 0, 1, 0);
        Arena.handOff(x, 0, Arena.forged(2, 1), 0);
        Arena.handOff(x, 0, Arena.forged(4, 2), 9);
        return x;
    }

    private static void foundByThat(Check check) {
        InkRing x = forgedBoth();
        check.due("not found", 2, () -> x.of(0, 3));
        check.due("one's", true, () -> x.look(0, 0, false));
        check.due("found", 4, () -> x.of(0, 3));
        check.due("one's again", true, () -> x.look(0, 0, false));
        check.due("found as before", 4, () -> x.of(0, 3));
        check.due("other's", true, () -> x.look(0, 0, true));
        check.due("both found", -1, () -> x.of(0, 3));
        InkRing y = handedIn(1, 0);
        y.clear();
        Arena.handOff(y, 0, Arena.seal(2, 1), 0);
        Arena.handOff(y, 0, Arena.seal(4, 2), 9);
        check.due("a right one", false, () -> y.look(0, 0, false));
        check.due("nothing is found", 2, () -> y.of(0, 3));
    }

    private static void looksInTheDuel(Check check) {
        InkRing x = duels(12, true);
        for (int k : new int[] {0, 11}) {
            check.due("duel " + k, true, () -> x.look(k, 0, false));
            check.due("found in " + k, 1, () -> x.of(k, 2));
        }
        for (int k = 1; k < 11; k++) {
            int duel = k;
            check.due("not found in " + k, 0, () -> x.of(duel, 2));
        }
    }

    private static void looksInTheRound(Check check) {
        InkRing x = Arena.plain();
        x.duel(2, 4, 0, 0, 5, 0);
        for (int k = 0; k < 5; k++) {
            Arena.handOff(x, 0, k % 2 == 0 ? Arena.forged(2, 2 * k + 1) : Arena.seal(2, 2 * k + 1), 5);
            Arena.handOff(x, 0, Arena.seal(4, 2 * k + 2), 5);
        }
        int found = 0;
        for (int k = 0; k < 5; k++) {
            int round = k;
            check.due("round " + k, round % 2 == 0, () -> x.look(0, round, false));
            found += round % 2 == 0 ? 1 : 0;
            int due = found;
            check.due("rounds lost by " + k, due, () -> x.of(0, 2));
        }
        Twins.NumberedCall call = (y, n) -> y.look(0, n, false);
        Twins.refusedBeyond(check, "round", Check.NO_SUCH, 0, 4, () -> handedIn(5, 10), call);
    }

    private static void looksAtTheOther(Check check) {
        InkRing x = Arena.plain();
        x.duel(2, 4, 0, 0, 2, 0);
        Arena.handOff(x, 0, Arena.seal(2, 1), 0);
        Arena.handOff(x, 0, Arena.forged(4, 2), 0);
        Arena.handOff(x, 0, Arena.forged(2, 3), 0);
        Arena.handOff(x, 0, Arena.seal(4, 4), 0);
        check.due("one's of round 0", false, () -> x.look(0, 0, false));
        check.due("other's of round 1", false, () -> x.look(0, 1, true));
        check.due("nothing is found by these", 0, () -> x.of(0, 1) + x.of(0, 2));
        check.due("other's of round 0", true, () -> x.look(0, 0, true));
        check.due("found", 1, () -> x.of(0, 1));
        check.due("one's of round 1", true, () -> x.look(0, 1, false));
        check.due("found, too", 1, () -> x.of(0, 2));
    }

    private static void whetherForged(Check check) {
        for (int aside = -2; aside <= 2; aside++) {
            InkRing x = duels(1, false);
            boolean due = aside != 0;
            Arena.handOff(x, 0, 37 + aside, 0);
            Arena.handOff(x, 0, 175 + aside, 0);
            check.due("one's, aside by " + aside, due, () -> x.look(0, 0, false));
            check.due("other's, aside by " + aside, due, () -> x.look(0, 0, true));
        }
        InkRing x = duels(1, false);
        Arena.handOff(x, 0, 138, 0);
        Arena.handOff(x, 0, 74, 0);
        check.due("the seal of the other writer", true, () -> x.look(0, 0, false));
        check.due("the seal of the one for that sheet", true, () -> x.look(0, 0, true));
    }

    private static void lookNoSuchDuel(Check check) {
        Twins.refusedBeyond(check, "none", Check.NO_SUCH, 0, -1, InkRing::new, (x, n) -> x.look(n, 0, false));
        Twins.refusedBeyond(check, "one", Check.NO_SUCH, 0, 0, DuelSentences::forgedBoth, (x, n) -> x.look(n, 0, false));
        Twins.refusedBeyond(check, "three", Check.NO_SUCH, 0, 2, Twins::midway, (x, n) -> x.look(n, 0, true));
        Twins.refusedBeyond(check, "twelve", Check.NO_SUCH, 0, 11, () -> duels(12, true), (x, n) -> x.look(n, 0, true));
    }

    private static void notHandedIn(Check check) {
        for (int k = 0; k <= 10; k++) {
            InkRing x = handedIn(5, k);
            int writings = k;
            for (int each = 0; each < 10; each++) {
                int number = each;
                Object due = number < writings ? "true" : Check.NO_SUCH;
                check.due("writing " + number + " of " + writings, due, () -> x.look(0, number / 2, number % 2 == 1));
            }
        }
        Twins.refused(check, "nothing", Check.NO_SUCH, () -> handedIn(1, 0), x -> x.look(0, 0, false));
        Twins.refused(check, "other's", Check.NO_SUCH, () -> handedIn(1, 1), x -> x.look(0, 0, true));
        Twins.refused(check, "the next round", Check.NO_SUCH, () -> handedIn(2, 2), x -> x.look(0, 1, false));
        Twins.refused(check, "behind the last", Check.NO_SUCH, () -> handedIn(1, 2), x -> x.look(0, 1, false));
        Twins.refused(check, "behind the fifth", Check.NO_SUCH, () -> handedIn(5, 10), x -> x.look(0, 5, true));
    }

    // ---- appeal

    private static void appeals(Check check) {
        InkRing x = handedIn(1, 2);
        check.due("not appealed", -1, () -> x.of(0, 5));
        x.appeal(0, 3);
        check.due("appealed", 3, () -> x.of(0, 5));
        check.due("by nobody else's style: half of the mark", 5.0f, () -> x.marked(0, 0, false));
        check.due("the draft stays", 2, x::clear);
    }

    private static void appealsTheDuel(Check check) {
        for (int k : new int[] {0, 11}) {
            InkRing x = duels(12, true);
            check.due("duel " + k, -1, () -> x.appeal(k, 2));
            for (int each = 0; each < 12; each++) {
                int duel = each;
                check.due("second judge of " + each, duel == k ? 2 : -1, () -> x.of(duel, 5));
            }
        }
    }

    private static void secondJudges(Check check) {
        for (int first = 0; first < 4; first++) {
            for (int second = 0; second < 4; second++) {
                InkRing x = Arena.plain();
                int judge = second;
                duel(x, 2, 4, first, 0);
                Arena.handOff(x, 0, 0, 0);
                Arena.handOff(x, 0, 0, 9);
                Object due = judge == first ? Check.NOT_NOW : judge == 0 || first == 0 ? "2" : "-1";
                check.due("judge " + first + ", second " + judge, due, () -> x.appeal(0, judge));
                check.due("second judge then", judge == first ? -1 : judge, () -> x.of(0, 5));
            }
        }
        Twins.refusedBeyond(check, "judge", Check.NO_SUCH, 0, 3, () -> handedIn(1, 2), (x, n) -> x.appeal(0, n));
    }

    private static void whoWinsThen(Check check) {
        check.due("one, with the less writer's number", 2, () -> handedIn(1, 2).appeal(0, 1));
        check.due("nobody, all alike", InkRing.NONE, () -> duels(1, true).appeal(0, 1));
        InkRing x = forgedBoth();
        x.look(0, 0, false);
        check.due("the other, one's seal was found", 4, () -> x.appeal(0, 1));
        InkRing y = forgedBoth();
        y.look(0, 0, false);
        y.look(0, 0, true);
        check.due("nobody, both seals were found", InkRing.NONE, () -> y.appeal(0, 1));
        InkRing z = Arena.plain();
        duel(z, 7, 0, 0, 0);
        Arena.handOff(z, 0, 0, 9);
        Arena.handOff(z, 0, 0, 0);
        check.due("writer 0", 0, () -> z.appeal(0, 1));
        check.due("won by that", 1, () -> z.won(0));
    }

    private static void appealNoSuch(Check check) {
        Twins.refusedBeyond(check, "no duels", Check.NO_SUCH, 0, -1, InkRing::new, (x, n) -> x.appeal(n, 1));
        Twins.refusedBeyond(check, "one duel", Check.NO_SUCH, 0, 0, () -> handedIn(1, 2), (x, n) -> x.appeal(n, 1));
        Twins.refusedBeyond(check, "twelve", Check.NO_SUCH, 0, 11, () -> duels(12, true), (x, n) -> x.appeal(n, 1));
        Twins.refusedBeyond(check, "judge", Check.NO_SUCH, 0, 3, () -> handedIn(1, 2), (x, n) -> x.appeal(0, n));
        Twins.refusedBeyond(check, "judge, goes on", Check.NO_SUCH, 0, 3, () -> handedIn(1, 1), (x, n) -> x.appeal(0, n));
    }

    private static void notAllRounds(Check check) {
        for (int k = 1; k <= 5; k++) {
            int rounds = k;
            for (int each : new int[] {0, 1, 2 * rounds - 1}) {
                Twins.Making making = () -> handedIn(rounds, each);
                Twins.refused(check, each + " of " + k + " rounds", Check.NOT_NOW, making, x -> x.appeal(0, 1));
            }
            check.due("all of " + k + " rounds", 2, () -> handedIn(rounds, 2 * rounds).appeal(0, 1));
        }
    }

    private static void wasAppealed(Check check) {
        for (int k = 0; k < 4; k++) {
            int judge = k;
            Twins.Making appealed = () -> {
                InkRing x = handedIn(1, 2);
                x.appeal(0, 2);
                return x;
            };
            Twins.refused(check, "again, to " + k, Check.NOT_NOW, appealed, x -> x.appeal(0, judge));
        }
        Twins.Making byJudge0 = () -> {
            InkRing x = Arena.plain();
            duel(x, 2, 4, 3, 0);
            Arena.handOff(x, 0, 0, 0);
            Arena.handOff(x, 0, 0, 9);
            x.appeal(0, 0);
            return x;
        };
        Twins.refused(check, "again, the second was judge 0", Check.NOT_NOW, byJudge0, x -> x.appeal(0, 1));
    }

    private static void judgeIsItsJudge(Check check) {
        for (int k = 0; k < 4; k++) {
            int judge = k;
            Twins.Making over = () -> {
                InkRing x = Arena.plain();
                duel(x, 2, 4, judge, 0);
                Arena.handOff(x, 0, 0, 0);
                Arena.handOff(x, 0, 0, 9);
                return x;
            };
            Twins.refused(check, "its judge " + k, Check.NOT_NOW, over, x -> x.appeal(0, judge));
            InkRing x = over.make();
            x.appeal(0, (judge + 1) % 4);
            check.due("the next judge", (judge + 1) % 4, () -> x.of(0, 5));
        }
    }
}
