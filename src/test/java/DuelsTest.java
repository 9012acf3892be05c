/** Promises 10 to 13: duel, hand, look, appeal. */
public final class DuelsTest {
    private DuelsTest() {
    }

    public static void main(String[] args) {
        Check check = new Check("DuelsTest");
        promise10Numbers(check);
        promise10Wrong(check);
        promise10WhichFirst(check);
        promise10NothingElseIsNeeded(check);
        promise11Turns(check);
        promise11Sheets(check);
        promise11SealsCountAllSheets(check);
        promise11DampOfThen(check);
        promise11Wrong(check);
        promise11NotNow(check);
        promise12Forged(check);
        promise12FoundLosesTheRound(check);
        promise12BothFound(check);
        promise12FoundAfterTheEnd(check);
        promise12FoundBeforeTheOther(check);
        promise12Wrong(check);
        promise13Mean(check);
        promise13WhatWasKnown(check);
        promise13NobodyWins(check);
        promise13Wrong(check);
        check.end();
    }

    private static void promise10Numbers(Check check) {
        InkRing x = Arena.plain();
        for (int k = 0; k < 12; k++) {
            int number = k;
            check.due("duel " + k, k, () -> x.duel(0, 7, 0, 2, 1 + number % 5, number));
        }
        check.due("a thirteenth", Check.NOT_NOW, () -> x.duel(0, 7, 0, 2, 1, 0));
        check.due("out of range then", Check.WRONG, () -> x.duel(0, 7, 0, 2, 6, 0));
        check.due("no such writer then", Check.NO_SUCH, () -> x.duel(0, 8, 0, 2, 1, 0));
        check.due("of the last", 0, () -> x.of(11, 0));
        check.due("of a thirteenth", Check.NO_SUCH, () -> x.of(12, 0));
    }

    private static void promise10Wrong(Check check) {
        InkRing x = Arena.plain();
        for (int bad : new int[] {-1, 8, Integer.MIN_VALUE, Integer.MAX_VALUE}) {
            check.due("one " + bad, Check.NO_SUCH, () -> x.duel(bad, 1, 0, 0, 1, 0));
            check.due("other " + bad, Check.NO_SUCH, () -> x.duel(1, bad, 0, 0, 1, 0));
            check.due("judge " + bad, Check.NO_SUCH, () -> x.duel(1, 2, bad, 0, 1, 0));
            check.due("paper " + bad, Check.NO_SUCH, () -> x.duel(1, 2, 0, bad, 1, 0));
        }
        check.due("judge 4", Check.NO_SUCH, () -> x.duel(1, 2, 4, 0, 1, 0));
        check.due("paper 3", Check.NO_SUCH, () -> x.duel(1, 2, 0, 3, 1, 0));
        check.due("against oneself", Check.WRONG, () -> x.duel(1, 1, 0, 0, 1, 0));
        for (int bad : new int[] {-1, 0, 6, Integer.MIN_VALUE, Integer.MAX_VALUE}) {
            check.due("rounds " + bad, Check.WRONG, () -> x.duel(1, 2, 0, 0, bad, 0));
        }
        for (int bad : new int[] {-1, 1000, Integer.MIN_VALUE, Integer.MAX_VALUE}) {
            check.due("draw " + bad, Check.WRONG, () -> x.duel(1, 2, 0, 0, 1, bad));
        }
        check.due("none was begun", 0, () -> x.duel(7, 0, 3, 2, 5, 999));
    }

    private static void promise10WhichFirst(Check check) {
        InkRing x = new InkRing();
        check.due("a writer, against oneself", Check.NO_SUCH, () -> x.duel(8, 8, 0, 0, 1, 0));
        check.due("a judge, against oneself", Check.NO_SUCH, () -> x.duel(1, 1, 4, 0, 1, 0));
        check.due("a paper, rounds", Check.NO_SUCH, () -> x.duel(1, 2, 0, 3, 0, 0));
        check.due("against oneself, no signs", Check.WRONG, () -> x.duel(1, 1, 0, 0, 1, 0));
        check.due("rounds, no signs", Check.WRONG, () -> x.duel(1, 2, 0, 0, 0, 0));
        check.due("draw, no signs", Check.WRONG, () -> x.duel(1, 2, 0, 0, 1, 1000));
        check.due("no signs", Check.NOT_NOW, () -> x.duel(1, 2, 0, 0, 1, 0));
    }

    private static void promise10NothingElseIsNeeded(Check check) {
        InkRing x = new InkRing();
        Arena.sign(x, 0, 0, 50, 0);
        Arena.draftOf(x, 2);
        check.due("without sheets and styles", 0, () -> x.duel(4, 3, 2, 1, 2, 0));
        check.due("the same two again", 1, () -> x.duel(4, 3, 2, 1, 2, 0));
        check.due("the draft stays", 2, x::clear);
        check.due("no winner yet", -1, () -> x.of(0, 3));
        check.due("no second judge", -1, () -> x.of(0, 5));
    }

    private static void promise11Turns(Check check) {
        InkRing x = Arena.plain();
        x.duel(3, 5, 0, 0, 2, 0);
        check.due("one, round 0", 1, () -> Arena.handOff(x, 0, Arena.seal(3, 1), 0));
        check.due("the draft is empty", 0, x::clear);
        check.due("other, round 0", 2, () -> Arena.handOff(x, 0, Arena.seal(5, 2), 10));
        check.due("one, round 1", 3, () -> Arena.handOff(x, 0, Arena.seal(3, 3), 20));
        check.due("other, round 1", 4, () -> Arena.handOff(x, 0, Arena.seal(5, 4), 30));
        check.due("writing of one, 0", 10.0f, () -> x.marked(0, 0, false));
        check.due("writing of other, 0", 8.0f, () -> x.marked(0, 0, true));
        check.due("writing of one, 1", 6.0f, () -> x.marked(0, 1, false));
        check.due("writing of other, 1", 4.0f, () -> x.marked(0, 1, true));
        for (int k = 0; k < 4; k++) {
            int number = k;
            check.due("seal " + k, false, () -> x.look(0, number / 2, number % 2 == 1));
        }
    }

    private static void promise11Sheets(Check check) {
        InkRing x = Arena.plain();
        x.buy(1, 2);
        x.buy(2, 1);
        x.duel(0, 1, 0, 1, 1, 0);
        check.due("a sheet of paper 1", 1, () -> Arena.handOff(x, 0, 0, 0));
        check.due("sheets of 1", 1, () -> x.paper(1, 0));
        check.due("sheets of 0", 100, () -> x.paper(0, 0));
        check.due("sheets of 2", 1, () -> x.paper(2, 0));
        check.due("eight strokes", 2, () -> {
            Arena.draftOf(x, 8);
            return x.hand(0, 999);
        });
        check.due("none left of 1", 0, () -> x.paper(1, 0));
    }

    private static void promise11SealsCountAllSheets(Check check) {
        InkRing x = Arena.plain();
        x.buy(2, 10);
        x.duel(7, 6, 0, 0, 1, 0);
        x.duel(6, 7, 0, 2, 1, 0);
        check.due("first sheet", 1, () -> Arena.handOff(x, 0, 744, 0));
        check.due("second sheet, another paper", 2, () -> Arena.handOff(x, 1, 680, 0));
        check.due("third sheet", 3, () -> Arena.handOff(x, 0, 717, 0));
        check.due("fourth sheet", 4, () -> Arena.handOff(x, 1, 855, 0));
        check.due("seal 0 false", false, () -> x.look(0, 0, false));
        check.due("seal 0 true", false, () -> x.look(0, 0, true));
        check.due("seal 1 false", false, () -> x.look(1, 0, false));
        check.due("seal 1 true", false, () -> x.look(1, 0, true));
        x.duel(7, 1, 0, 0, 5, 0);
        for (int k = 5; k <= 13; k++) {
            int sheet = k;
            int writer = k % 2 == 1 ? 7 : 1;
            Arena.handOff(x, 2, Arena.seal(writer, sheet), 0);
            check.due("seal of sheet " + k, false, () -> x.look(2, (sheet - 5) / 2, sheet % 2 == 0));
        }
        check.due("behind 1000: 707 and 37 times 14 are 1225", 14, () -> Arena.handOff(x, 2, 619, 0));
        check.due("that seal", false, () -> x.look(2, 4, true));
    }

    private static void promise11DampOfThen(Check check) {
        InkRing x = Arena.plain();
        x.duel(0, 1, 0, 0, 2, 0);
        x.rise(0, 10);
        Arena.handOff(x, 0, 0, 0);
        x.pass(2);
        Arena.handOff(x, 0, 0, 0);
        x.pass(8);
        Arena.handOff(x, 0, 0, 10);
        check.due("no damp then", 10.0f, () -> x.marked(0, 0, false));
        check.due("damp 20 then", 10.0f * (1.0f - 20.0f / 200.0f), () -> x.marked(0, 0, true));
        check.due("damp 100 then", 8.0f * (1.0f - 100.0f / 200.0f), () -> x.marked(0, 1, false));
    }

    private static void promise11Wrong(Check check) {
        InkRing x = Arena.plain();
        x.duel(0, 1, 0, 0, 1, 0);
        check.due("duel 1", Check.NO_SUCH, () -> x.hand(1, 0));
        check.due("duel -1", Check.NO_SUCH, () -> x.hand(-1, 0));
        check.due("duel and seal", Check.NO_SUCH, () -> x.hand(1, 1000));
        check.due("duel 12", Check.NO_SUCH, () -> x.hand(12, 0));
        for (int bad : new int[] {-1, 1000, Integer.MIN_VALUE, Integer.MAX_VALUE}) {
            check.due("seal " + bad, Check.WRONG, () -> x.hand(0, bad));
        }
        check.due("an empty draft", Check.NOT_NOW, () -> x.hand(0, 0));
        check.due("nothing was handed in", 0, () -> x.of(0, 0));
        check.due("no sheet was taken", 100, () -> x.paper(0, 0));
        check.due("the first sheet", 1, () -> Arena.handOff(x, 0, 0, 0));
    }

    private static void promise11NotNow(Check check) {
        InkRing x = Arena.plain();
        x.buy(1, 1);
        x.duel(0, 1, 0, 1, 1, 0);
        Arena.handOff(x, 0, 0, 0);
        Arena.draftOf(x, 3);
        check.due("no sheet left", Check.NOT_NOW, () -> x.hand(0, 0));
        check.due("the draft stays", 3, x::clear);
        x.buy(1, 5);
        check.due("with sheets", 2, () -> Arena.handOff(x, 0, 0, 0));
        Arena.draftOf(x, 3);
        check.due("all rounds", Check.NOT_NOW, () -> x.hand(0, 0));
        check.due("seal behind all rounds", Check.WRONG, () -> x.hand(0, 1000));
        check.due("the draft stays then", 3, x::clear);
        check.due("the sheets stay then", 4, () -> x.paper(1, 0));
        x.duel(0, 1, 0, 0, 5, 0);
        for (int k = 0; k < 10; k++) {
            Arena.handOff(x, 1, 0, 0);
        }
        Arena.draftOf(x, 1);
        check.due("all five rounds", Check.NOT_NOW, () -> x.hand(1, 0));
        check.due("ten writings", 10, () -> x.of(1, 0));
    }

    private static void promise12Forged(Check check) {
        InkRing x = Arena.plain();
        x.duel(2, 4, 0, 0, 2, 0);
        Arena.handOff(x, 0, Arena.forged(2, 1), 0);
        Arena.handOff(x, 0, Arena.seal(4, 2), 0);
        Arena.handOff(x, 0, Arena.seal(4, 3), 0);
        check.due("a forged one", true, () -> x.look(0, 0, false));
        check.due("looked at again", true, () -> x.look(0, 0, false));
        check.due("a right one", false, () -> x.look(0, 0, true));
        check.due("the seal of another writer", true, () -> x.look(0, 1, false));
    }

    private static void promise12FoundLosesTheRound(Check check) {
        InkRing x = Arena.plain();
        x.duel(2, 4, 0, 0, 1, 0);
        Arena.handOff(x, 0, Arena.forged(2, 1), 0);
        Arena.handOff(x, 0, Arena.forged(4, 2), 30);
        check.due("not found yet", 1, () -> x.of(0, 1));
        check.due("winner then", 2, () -> x.of(0, 3));
        x.look(0, 0, false);
        check.due("found", 0, () -> x.of(0, 1));
        check.due("to the other one", 1, () -> x.of(0, 2));
        check.due("winner when found", 4, () -> x.of(0, 3));
        check.due("the mark stays", 10.0f, () -> x.marked(0, 0, false));
        InkRing y = Arena.plain();
        y.duel(2, 4, 0, 0, 1, 0);
        Arena.handOff(y, 0, Arena.seal(2, 1), 30);
        Arena.handOff(y, 0, Arena.forged(4, 2), 0);
        y.look(0, 0, false);
        check.due("a right one looked at", 4, () -> y.of(0, 3));
        y.look(0, 0, true);
        check.due("the other's is found", 2, () -> y.of(0, 3));
    }

    private static void promise12BothFound(Check check) {
        InkRing x = Arena.plain();
        x.duel(2, 4, 0, 0, 2, 0);
        Arena.handOff(x, 0, Arena.forged(2, 1), 0);
        Arena.handOff(x, 0, Arena.forged(4, 2), 30);
        Arena.handOff(x, 0, Arena.forged(2, 3), 30);
        Arena.handOff(x, 0, Arena.forged(4, 4), 0);
        x.look(0, 0, true);
        x.look(0, 0, false);
        check.due("rounds of one", 0, () -> x.of(0, 1));
        check.due("rounds of other", 1, () -> x.of(0, 2));
        check.due("the other wins", 4, () -> x.of(0, 3));
        x.look(0, 1, false);
        x.look(0, 1, true);
        check.due("no rounds of other", 0, () -> x.of(0, 2));
        check.due("nobody wins", -1, () -> x.of(0, 3));
    }

    private static void promise12FoundAfterTheEnd(Check check) {
        InkRing x = Arena.plain();
        x.learn(1, 0);
        x.duel(2, 4, 0, 0, 1, 0);
        Arena.handOff(x, 0, Arena.forged(2, 1), 0);
        Arena.handOff(x, 0, Arena.seal(4, 2), 30);
        x.pass(10);
        check.due("appealed", 2, () -> x.appeal(0, 1));
        check.due("won by one", 1, () -> x.won(2));
        check.due("looked at late", true, () -> x.look(0, 0, false));
        check.due("not won by one", 0, () -> x.won(2));
        check.due("won by the other", 1, () -> x.won(4));
    }

    private static void promise12FoundBeforeTheOther(Check check) {
        InkRing x = Arena.plain();
        x.duel(2, 4, 0, 0, 1, 0);
        Arena.handOff(x, 0, Arena.forged(2, 1), 0);
        check.due("looked at early", true, () -> x.look(0, 0, false));
        check.due("no round goes yet", 0, () -> x.of(0, 2));
        Arena.handOff(x, 0, Arena.seal(4, 2), 90);
        check.due("the round goes then", 1, () -> x.of(0, 2));
        check.due("the other wins with less", 4, () -> x.of(0, 3));
    }

    private static void promise12Wrong(Check check) {
        InkRing x = Arena.plain();
        x.duel(2, 4, 0, 0, 2, 0);
        check.due("nothing handed in", Check.NO_SUCH, () -> x.look(0, 0, false));
        Arena.handOff(x, 0, 0, 0);
        check.due("handed in", true, () -> x.look(0, 0, false));
        check.due("other's not", Check.NO_SUCH, () -> x.look(0, 0, true));
        check.due("round 1 not", Check.NO_SUCH, () -> x.look(0, 1, false));
        for (int bad : new int[] {-1, 2, 5, Integer.MIN_VALUE, Integer.MAX_VALUE}) {
            check.due("round " + bad, Check.NO_SUCH, () -> x.look(0, bad, false));
            check.due("other's round " + bad, Check.NO_SUCH, () -> x.look(0, bad, true));
        }
        for (int bad : new int[] {-1, 1, 12, Integer.MIN_VALUE, Integer.MAX_VALUE}) {
            check.due("duel " + bad, Check.NO_SUCH, () -> x.look(bad, 0, false));
        }
    }

    /** Judge 0 goes by nearness (style 0), judge 1 by order (style 1). */
    private static InkRing twoJudges() {
        InkRing x = Arena.plain();
        x.style(1, 0, 0, 100);
        x.learn(1, 1);
        x.duel(6, 2, 0, 0, 1, 0);
        Arena.hand(x, 0, 0, 0, 0, 50, 0, 1, 1, 2, 2);
        Arena.hand(x, 0, 0, 0, 20, 50, 20);
        return x;
    }

    private static void promise13Mean(Check check) {
        InkRing x = twoJudges();
        check.due("by its judge", 6, () -> x.of(0, 3));
        check.due("by both", 2, () -> x.appeal(0, 1));
        check.due("mean of one", 5.0f, () -> x.marked(0, 0, false));
        check.due("mean of other", 8.0f, () -> x.marked(0, 0, true));
        check.due("rounds of one", 0, () -> x.of(0, 1));
        check.due("rounds of other", 1, () -> x.of(0, 2));
        check.due("winner", 2, () -> x.of(0, 3));
        check.due("second judge", 1, () -> x.of(0, 5));
        check.due("a second appeal", Check.NOT_NOW, () -> x.appeal(0, 2));
        check.due("by the same", Check.NOT_NOW, () -> x.appeal(0, 1));
        check.due("the second judge stays", 1, () -> x.of(0, 5));
    }

    private static void promise13WhatWasKnown(Check check) {
        InkRing x = Arena.plain();
        x.style(1, 0, 0, 100);
        x.duel(6, 2, 0, 0, 1, 0);
        x.learn(1, 1);
        x.duel(6, 2, 0, 0, 1, 0);
        x.pass(1);
        x.learn(2, 1);
        for (int k = 0; k < 2; k++) {
            Arena.hand(x, k, 0, 0, 0, 50, 0, 1, 1, 2, 2);
            Arena.hand(x, k, 0, 0, 20, 50, 20);
        }
        check.due("learned on that day, behind the beginning", 2, () -> x.appeal(0, 1));
        check.due("learned a day later", 6, () -> x.appeal(1, 2));
        check.due("half of one", 5.0f, () -> x.marked(1, 0, false));
        check.due("half of other", 3.0f, () -> x.marked(1, 0, true));
    }

    private static void promise13NobodyWins(Check check) {
        InkRing x = twoJudges();
        x.style(0, 0, 0, 0);
        x.style(1, 0, 0, 0);
        check.due("both alike", -1, () -> x.appeal(0, 3));
        InkRing y = Arena.plain();
        y.duel(6, 2, 0, 0, 2, 0);
        Arena.handOff(y, 0, 0, 0);
        Arena.handOff(y, 0, 0, 1);
        Arena.handOff(y, 0, 0, 1);
        Arena.handOff(y, 0, 0, 0);
        check.due("a round each", -1, () -> y.appeal(0, 1));
        y.look(0, 1, true);
        check.due("a forged one found behind the appeal", 6, () -> y.of(0, 3));
    }

    private static void promise13Wrong(Check check) {
        InkRing x = Arena.plain();
        x.duel(6, 2, 0, 0, 1, 0);
        check.due("goes on", Check.NOT_NOW, () -> x.appeal(0, 1));
        Arena.handOff(x, 0, 0, 0);
        check.due("goes on still", Check.NOT_NOW, () -> x.appeal(0, 1));
        check.due("no judge while it goes on", Check.NO_SUCH, () -> x.appeal(0, 4));
        Arena.handOff(x, 0, 0, 1);
        for (int bad : new int[] {-1, 4, Integer.MIN_VALUE, Integer.MAX_VALUE}) {
            check.due("judge " + bad, Check.NO_SUCH, () -> x.appeal(0, bad));
        }
        for (int bad : new int[] {-1, 1, 12, Integer.MIN_VALUE, Integer.MAX_VALUE}) {
            check.due("duel " + bad, Check.NO_SUCH, () -> x.appeal(bad, 1));
        }
        check.due("its own judge", Check.NOT_NOW, () -> x.appeal(0, 0));
        check.due("no second judge by these", -1, () -> x.of(0, 5));
        check.due("appealed at last", 6, () -> x.appeal(0, 3));
        check.due("no judge when appealed", Check.NO_SUCH, () -> x.appeal(0, 4));
    }
}
