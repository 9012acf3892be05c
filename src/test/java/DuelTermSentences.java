/** Of the terms: duels. */
final class DuelTermSentences {
    private static final int[] LEVEL = {0, 0, 50, 0};

    private DuelTermSentences() {
    }

    static void tell(Sentences s) {
        s.in("Duels");
        tellBeginnings(s);
        tellPrompts(s);
        tellHanding(s);
        tellRounds(s);
        tellWinners(s);
        tellAppeals(s);
    }

    private static void tellBeginnings(Sentences s) {
        s.holds("Writers are numbered 0 to 7", DuelTermSentences::writers);
        s.holds("Duels are numbered from 0, at most 12", DuelTermSentences::twelveDuels);
        s.holds("a duel is of two writers", DuelTermSentences::twoWriters);
        s.holds("a number of rounds, 1 to 5", DuelTermSentences::rounds);
        s.holds("a draw, 0 to 999", DuelTermSentences::draws);
        s.holds("its day is that on which it began", DuelTermSentences::dayOfItsBeginning);
    }

    private static void tellPrompts(Sentences s) {
        s.holds("The prompt of its round k, from 0", DuelTermSentences::promptsFromRound0);
        s.holds("the remainder of (the draw, and 17 times k)", DuelTermSentences::promptsBeginAnew);
        s.holds("by how many signs there were as it began", DuelTermSentences::signsAsItBegan);
        s.holds("by how many signs there were as it began", DuelTermSentences::markedAgainstThePrompt);
    }

    private static void tellHanding(Sentences s) {
        s.holds("In a round first the one, then the other one hands in what is drafted", DuelTermSentences::turns);
        s.holds("which takes a sheet", DuelTermSentences::takesASheet);
        s.holds("the damp is that of then", DuelTermSentences::dampOfThen);
        s.holds("A writing has a seal, 0 to 999", DuelTermSentences::seals);
        s.holds("the how manieth of all sheets that were taken from all papers, from 1 on", DuelTermSentences::sheetsFrom1);
        s.holds("by 1000", DuelTermSentences::sealsBeginAnew);
        s.holds("by 1000", DuelTermSentences::sealsOfAllSheets);
        s.holds("A seal that is not right is forged", DuelTermSentences::forgedNextToRight);
        s.holds("that does not show, until it is found", DuelTermSentences::forgedDoesNotShow);
    }

    private static void tellRounds(Sentences s) {
        s.holds("A round in which both have handed in", DuelTermSentences::bothHaveHandedIn);
        s.holds("goes to the writer with the greater mark", DuelTermSentences::theLeastGreaterMark);
        s.holds("by the styles that this one knew on the day of the duel", DuelTermSentences::stylesOfTheDay);
        s.holds("as their weights are now", DuelTermSentences::weightsOfNow);
        s.holds("to nobody, if both are alike", DuelTermSentences::alike);
        s.holds("A forged seal that was found loses the round", DuelTermSentences::foundLoses);
        s.holds("if the other one's was not found likewise", DuelTermSentences::othersNotFound);
        s.holds("to nobody if both were", DuelTermSentences::bothFound);
    }

    private static void tellWinners(Sentences s) {
        s.holds("A duel that has all rounds is won", DuelTermSentences::notBeforeAllRounds);
        s.holds("by who has more of them", DuelTermSentences::moreRounds);
        s.holds("by nobody, if both have as many", DuelTermSentences::asManyRounds);
    }

    private static void tellAppeals(Sentences s) {
        s.holds("all rounds are judged by the mean of both judges' marks", DuelTermSentences::allRoundsByTheMean);
        s.holds("(their sum, divided by 2.0f)", DuelTermSentences::sumDividedBy2);
        s.holds("by what each knew on the day of the duel", DuelTermSentences::whatEachKnew);
        s.holds("A duel is appealed once", DuelTermSentences::appealedOnce);
    }

    // ---- how a duel begins

    private static void writers(Check check) {
        InkRing x = Arena.plain();
        for (int k = 0; k < 8; k++) {
            int writer = k;
            check.due("begun by " + k, k, () -> x.duel(writer, (writer + 1) % 8, 0, 0, 1, 0));
            check.due("asked for " + k, 0, () -> x.won(writer));
            Arena.handOff(x, k, Arena.seal(k, 2 * k + 1), 0);
            Arena.handOff(x, k, 0, 1);
            check.due("won by " + k, 1, () -> x.won(writer));
        }
        for (int bad : new int[] {-1, 8}) {
            check.due("begun by " + bad, Check.NO_SUCH, () -> x.duel(bad, 0, 0, 0, 1, 0));
            check.due("begun against " + bad, Check.NO_SUCH, () -> x.duel(0, bad, 0, 0, 1, 0));
            check.due("asked for " + bad, Check.NO_SUCH, () -> x.won(bad));
        }
    }

    private static void twelveDuels(Check check) {
        InkRing x = Arena.plain();
        check.due("no duel 0 before", Check.NO_SUCH, () -> x.of(0, 0));
        for (int k = 0; k < 12; k++) {
            int number = k;
            check.due("duel " + k, number, () -> x.duel(0, 1, 0, 0, 1, 0));
            check.due("of duel " + k, 0, () -> x.of(number, 0));
            check.due("of the next of " + k, Check.NO_SUCH, () -> x.of(number + 1, 0));
        }
        check.due("a thirteenth", Check.NOT_NOW, () -> x.duel(0, 1, 0, 0, 1, 0));
        check.due("duel -1", Check.NO_SUCH, () -> x.of(-1, 0));
        Arena.handOff(x, 11, 0, 0);
        check.due("the last is another than the first", 0, () -> x.of(0, 0));
        check.due("handed in for the last", 1, () -> x.of(11, 0));
    }

    private static void twoWriters(Check check) {
        InkRing x = Arena.plain();
        for (int k = 0; k < 8; k++) {
            int writer = k;
            check.due("one against oneself, " + k, Check.WRONG, () -> x.duel(writer, writer, 0, 0, 1, 0));
        }
        check.due("the least and the greatest", 0, () -> x.duel(0, 7, 0, 0, 1, 0));
        check.due("the greatest and the least", 1, () -> x.duel(7, 0, 0, 0, 1, 0));
        check.due("next to each other", 2, () -> x.duel(3, 4, 0, 0, 1, 0));
        check.due("the same two again", 3, () -> x.duel(3, 4, 0, 0, 1, 0));
    }

    private static void rounds(Check check) {
        for (int k = 1; k <= 5; k++) {
            InkRing x = Arena.plain();
            int rounds = k;
            check.due(k + " rounds", 0, () -> x.duel(0, 1, 0, 0, rounds, 0));
            for (int sheet = 1; sheet <= 2 * rounds; sheet++) {
                int due = sheet;
                check.due(k + " rounds, sheet " + sheet, due, () -> Arena.handOff(x, 0, 0, 0));
            }
            check.due(k + " rounds, one more", Check.NOT_NOW, () -> Arena.handOff(x, 0, 0, 0));
            check.due(k + " rounds, the last prompt", 0, () -> x.prompt(0, rounds - 1));
            check.due(k + " rounds, the prompt behind", Check.NO_SUCH, () -> x.prompt(0, rounds));
        }
        InkRing x = Arena.plain();
        check.due("no rounds", Check.WRONG, () -> x.duel(0, 1, 0, 0, 0, 0));
        check.due("6 rounds", Check.WRONG, () -> x.duel(0, 1, 0, 0, 6, 0));
    }

    private static InkRing sixSigns() {
        InkRing x = new InkRing();
        for (int k = 1; k <= 6; k++) {
            Arena.draftOf(x, k);
            x.sign();
        }
        return x;
    }

    private static void draws(Check check) {
        InkRing x = sixSigns();
        check.due("draw 0", 0, () -> x.duel(0, 1, 0, 0, 1, 0));
        check.due("draw 999", 1, () -> x.duel(0, 1, 0, 0, 1, 999));
        check.due("prompt of draw 0", 0, () -> x.prompt(0, 0));
        check.due("prompt of draw 999", 3, () -> x.prompt(1, 0));
        check.due("draw -1", Check.WRONG, () -> x.duel(0, 1, 0, 0, 1, -1));
        check.due("draw 1000", Check.WRONG, () -> x.duel(0, 1, 0, 0, 1, 1000));
    }

    private static void dayOfItsBeginning(Check check) {
        InkRing x = Arena.plain();
        x.duel(0, 1, 0, 0, 1, 0);
        x.pass(1);
        x.duel(0, 1, 0, 0, 1, 0);
        for (int k = 0; k < 49; k++) {
            x.pass(100);
        }
        x.pass(99);
        x.duel(0, 1, 0, 0, 1, 0);
        Arena.handOff(x, 0, 0, 0);
        Arena.handOff(x, 0, 0, 0);
        check.due("begun on the first day, ended on the last", 0, () -> x.of(0, 4));
        check.due("begun on the next day", 1, () -> x.of(1, 4));
        check.due("begun on the last day", 5000, () -> x.of(2, 4));
    }

    // ---- prompts

    private static void promptsFromRound0(Check check) {
        InkRing x = sixSigns();
        x.duel(0, 1, 0, 0, 5, 4);
        check.due("of round 0, the draw itself", 4, () -> x.prompt(0, 0));
        check.due("of round 1", 3, () -> x.prompt(0, 1));
        check.due("of round -1", Check.NO_SUCH, () -> x.prompt(0, -1));
    }

    private static void promptsAre(Check check, InkRing x, int draw, int... due) {
        int duel = x.duel(0, 1, 0, 0, 5, draw);
        for (int k = 0; k < 5; k++) {
            int round = k;
            check.due("draw " + draw + ", round " + k, due[k], () -> x.prompt(duel, round));
        }
    }

    private static void promptsBeginAnew(Check check) {
        InkRing six = sixSigns();
        promptsAre(check, six, 0, 0, 5, 4, 3, 2);
        promptsAre(check, six, 5, 5, 4, 3, 2, 1);
        promptsAre(check, six, 6, 0, 5, 4, 3, 2);
        promptsAre(check, six, 7, 1, 0, 5, 4, 3);
        promptsAre(check, six, 11, 5, 4, 3, 2, 1);
        promptsAre(check, six, 12, 0, 5, 4, 3, 2);
        promptsAre(check, six, 995, 5, 4, 3, 2, 1);
        promptsAre(check, six, 996, 0, 5, 4, 3, 2);
        promptsAre(check, six, 999, 3, 2, 1, 0, 5);
    }

    private static void signsAsItBegan(Check check) {
        InkRing x = new InkRing();
        int[][] due = {
            {0, 0, 0, 0, 0}, {1, 0, 1, 0, 1}, {0, 2, 1, 0, 2}, {3, 0, 1, 2, 3}, {4, 1, 3, 0, 2}, {3, 2, 1, 0, 5}
        };
        for (int signs = 1; signs <= 6; signs++) {
            Arena.draftOf(x, signs);
            x.sign();
            promptsAre(check, x, 999, due[signs - 1]);
        }
        for (int signs = 1; signs <= 6; signs++) {
            for (int k = 0; k < 5; k++) {
                int duel = signs - 1;
                int round = k;
                check.due("begun with " + signs + ", all signs now, round " + k, due[duel][k], () -> x.prompt(duel, round));
            }
        }
    }

    /** The order of a writing is 10.0f just for the sign that has as many strokes. */
    private static void markedAgainstThePrompt(Check check) {
        InkRing x = new InkRing();
        for (int k = 1; k <= 3; k++) {
            Arena.draftOf(x, k);
            x.sign();
        }
        x.style(3, 0, 0, 100);
        x.learn(0, 3);
        x.buy(0, 100);
        x.duel(0, 1, 0, 0, 5, 2);
        for (int k = 4; k <= 6; k++) {
            Arena.draftOf(x, k);
            x.sign();
        }
        int[] prompts = {2, 1, 0, 2, 1};
        for (int k = 0; k < 5; k++) {
            int round = k;
            Arena.draftOf(x, prompts[k] + 1);
            x.hand(0, 0);
            Arena.draftOf(x, prompts[k] + 2);
            x.hand(0, 0);
            check.due("as many strokes as the prompt of " + k, 10.0f, () -> x.marked(0, round, false));
            check.due("one more than the prompt of " + k, 0.0f, () -> x.marked(0, round, true));
        }
    }

    // ---- what is handed in

    private static void turns(Check check) {
        InkRing x = Arena.plain();
        x.duel(6, 2, 0, 0, 5, 0);
        for (int k = 0; k < 10; k++) {
            int number = k;
            boolean byOther = k % 2 == 1;
            check.due("before " + k, Check.NO_SUCH, () -> x.marked(0, number / 2, byOther));
            Arena.handOff(x, 0, Arena.seal(byOther ? 2 : 6, k + 1), 5 * k);
            float due = 10.0f - (float) (10 * k) / 10.0f;
            check.due("the writing " + k, due, () -> x.marked(0, number / 2, byOther));
            check.due("is sealed by whose turn it was", false, () -> x.look(0, number / 2, byOther));
            check.due("how many then", number + 1, () -> x.of(0, 0));
        }
        check.due("round 0 of one is still the first", 10.0f, () -> x.marked(0, 0, false));
    }

    private static void takesASheet(Check check) {
        InkRing x = Arena.plain();
        x.buy(1, 1);
        x.duel(0, 1, 0, 0, 1, 0);
        x.duel(0, 1, 0, 1, 1, 0);
        Arena.handOff(x, 0, 0, 0);
        check.due("99 left", 99, () -> x.paper(0, 0));
        check.due("the other paper has its one", 1, () -> x.paper(1, 0));
        Arena.handOff(x, 1, 0, 0);
        check.due("none left", 0, () -> x.paper(1, 0));
        check.due("still 99 left", 99, () -> x.paper(0, 0));
        check.due("not a sheet", Check.NOT_NOW, () -> Arena.handOff(x, 1, 0, 0));
        check.due("still none", 0, () -> x.paper(1, 0));
    }

    private static void dampOfThen(Check check) {
        InkRing x = Arena.plain();
        x.buy(1, 10);
        x.duel(0, 1, 0, 1, 2, 0);
        x.rise(0, 7);
        x.rise(1, 10);
        Arena.handOff(x, 0, 0, 0);
        x.pass(1);
        Arena.handOff(x, 0, 0, 0);
        x.pass(9);
        Arena.handOff(x, 0, 0, 0);
        x.rise(1, -10);
        x.pass(10);
        Arena.handOff(x, 0, 0, 0);
        x.pass(1);
        check.due("before the first damp", 10.0f, () -> x.marked(0, 0, false));
        check.due("damp 10, of the day after", 9.5f, () -> x.marked(0, 0, true));
        check.due("damp 100", 5.0f, () -> x.marked(0, 1, false));
        check.due("dry again", 10.0f, () -> x.marked(0, 1, true));
    }

    private static void seals(Check check) {
        InkRing x = Arena.plain();
        x.duel(0, 1, 0, 0, 2, 0);
        check.due("seal -1", Check.WRONG, () -> Arena.handOff(x, 0, -1, 0));
        x.clear();
        check.due("seal 1000", Check.WRONG, () -> Arena.handOff(x, 0, 1000, 0));
        x.clear();
        check.due("seal 0", 1, () -> Arena.handOff(x, 0, 0, 0));
        check.due("seal 999", 2, () -> Arena.handOff(x, 0, 999, 0));
        check.due("right seal", 3, () -> Arena.handOff(x, 0, 111, 0));
        check.due("0 is forged", true, () -> x.look(0, 0, false));
        check.due("999 is forged", true, () -> x.look(0, 0, true));
        check.due("3 times 37 is right", false, () -> x.look(0, 1, false));
    }

    private static void sheetsFrom1(Check check) {
        InkRing x = Arena.plain();
        x.buy(1, 5);
        x.buy(2, 5);
        for (int paper = 0; paper < 3; paper++) {
            x.duel(7, 1, 0, paper, 1, 0);
        }
        int[] right = {744, 781, 818, 249, 286, 323};
        for (int k = 0; k < 6; k++) {
            int sheet = k + 1;
            check.due("sheet, of paper " + k % 3, sheet, () -> Arena.handOff(x, (sheet - 1) % 3, right[sheet - 1], 0));
        }
        for (int k = 0; k < 6; k++) {
            int number = k;
            check.due("its seal, sheet " + (k + 1), false, () -> x.look(number % 3, 0, number > 2));
        }
    }

    /** Duels of five rounds, until so many sheets are taken: the next one has the number behind them. */
    private static InkRing takenSheets(int one, int other, int sheets) {
        InkRing x = Arena.plain();
        x.buy(0, 100);
        for (int k = 0; k < 12; k++) {
            x.duel(one, other, 0, 0, 5, 0);
        }
        for (int k = 0; k < sheets; k++) {
            Arena.handOff(x, k / 10, 0, 0);
        }
        return x;
    }

    private static void sealIs(Check check, int one, int other, int sheet, int right) {
        InkRing x = takenSheets(one, other, sheet - 1);
        int duel = (sheet - 1) / 10;
        int round = (sheet - 1) % 10 / 2;
        boolean byOther = sheet % 2 == 0;
        check.due("sheet " + sheet, sheet, () -> Arena.handOff(x, duel, right, 0));
        check.due("seal " + right + " of sheet " + sheet, false, () -> x.look(duel, round, byOther));
    }

    private static void sealsBeginAnew(Check check) {
        sealIs(check, 0, 1, 1, 37);
        sealIs(check, 0, 1, 27, 999);
        sealIs(check, 1, 0, 28, 36);
        sealIs(check, 7, 1, 7, 966);
        sealIs(check, 1, 7, 8, 3);
        sealIs(check, 7, 1, 89, 0);
        sealIs(check, 0, 7, 120, 147);
    }

    private static void sealsOfAllSheets(Check check) {
        for (int one = 0; one < 7; one++) {
            InkRing x = Arena.plain();
            x.buy(0, 20);
            for (int k = 0; k < 12; k++) {
                x.duel(one, one + 1, 0, 0, 5, 0);
            }
            for (int sheet = 1; sheet <= 120; sheet++) {
                int duel = (sheet - 1) / 10;
                int round = (sheet - 1) % 10 / 2;
                int writer = sheet % 2 == 1 ? one : one + 1;
                boolean byOther = sheet % 2 == 0;
                Arena.handOff(x, duel, (101 * writer + 37 * sheet) % 1000, 0);
                check.due("seal of " + writer + ", sheet " + sheet, false, () -> x.look(duel, round, byOther));
            }
        }
    }

    private static void forgedNextToRight(Check check) {
        int[] seals = {0, 36, 38, 999};
        for (int seal : seals) {
            InkRing x = Arena.plain();
            x.duel(0, 1, 0, 0, 1, 0);
            Arena.handOff(x, 0, seal, 0);
            check.due("seal " + seal + " for 37", true, () -> x.look(0, 0, false));
        }
        for (int seal : new int[] {0, 1, 998, 999}) {
            InkRing x = takenSheets(0, 1, 26);
            Arena.handOff(x, 2, seal, 0);
            check.due("seal " + seal + " for 999", seal != 999, () -> x.look(2, 3, false));
            InkRing y = takenSheets(7, 1, 88);
            Arena.handOff(y, 8, seal, 0);
            check.due("seal " + seal + " for 0", seal != 0, () -> y.look(8, 4, false));
        }
    }

    private static InkRing sealed(boolean forged) {
        InkRing x = Arena.plain();
        x.learn(1, 0);
        x.duel(2, 4, 0, 0, 2, 0);
        int aside = forged ? 1 : 0;
        Arena.handOff(x, 0, Arena.seal(2, 1) + aside, 0);
        Arena.handOff(x, 0, Arena.seal(4, 2) + aside, 10);
        Arena.handOff(x, 0, Arena.seal(2, 3) + aside, 5);
        Arena.handOff(x, 0, Arena.seal(4, 4) + aside, 9);
        return x;
    }

    private static void forgedDoesNotShow(Check check) {
        InkRing right = sealed(false);
        InkRing forged = sealed(true);
        check.same("all questions", Twins.questions(right), Twins.questions(forged));
        check.due("won by forged seals", 2, () -> forged.of(0, 3));
        check.due("appealed alike", 2, () -> forged.appeal(0, 1));
        right.appeal(0, 1);
        check.same("all questions then", Twins.questions(right), Twins.questions(forged));
        forged.look(0, 0, false);
        check.due("found", 1, () -> forged.of(0, 2));
        check.due("the other forged ones don't show by that", 1, () -> forged.of(0, 1));
    }

    // ---- rounds

    private static void bothHaveHandedIn(Check check) {
        InkRing x = Arena.plain();
        x.duel(2, 4, 0, 0, 2, 0);
        roundsAre(check, x, "nothing handed in", 0, 0);
        Arena.handOff(x, 0, 0, 0);
        roundsAre(check, x, "one of round 0", 0, 0);
        Arena.handOff(x, 0, 0, 1);
        roundsAre(check, x, "both of round 0", 1, 0);
        Arena.handOff(x, 0, 0, 9);
        roundsAre(check, x, "one of round 1", 1, 0);
        Arena.handOff(x, 0, 0, 8);
        roundsAre(check, x, "both of round 1", 1, 1);
    }

    private static void roundsAre(Check check, InkRing x, String when, int ofOne, int ofOther) {
        check.due(when + ": to one", ofOne, () -> x.of(0, 1));
        check.due(when + ": to other", ofOther, () -> x.of(0, 2));
    }

    /** A duel of one round for a sign of this way, marked by slope alone; the writings in these ways. */
    private static InkRing bySlope(int c, int d, int[] wayOfOne, int[] wayOfOther) {
        InkRing x = new InkRing();
        handable(x, c, d);
        x.sign();
        x.style(0, 0, 100, 0);
        x.learn(0, 0);
        x.buy(0, 2);
        x.duel(2, 4, 0, 0, 1, 0);
        handable(x, wayOfOne[0], wayOfOne[1]);
        x.hand(0, 0);
        handable(x, wayOfOther[0], wayOfOther[1]);
        x.hand(0, 0);
        return x;
    }

    private static void handable(InkRing x, int a, int b) {
        int fromX = a < 0 ? 99 : 0;
        int fromY = b < 0 ? 99 : 0;
        x.stroke(fromX, fromY, fromX + a, fromY + b);
    }

    private static void theLeastGreaterMark(Check check) {
        InkRing x = Arena.plain();
        x.duel(2, 4, 0, 0, 2, 0);
        Arena.hand(x, 0, 0, 0, 4, 50, 4);
        Arena.hand(x, 0, 0, 0, 4, 50, 5);
        Arena.hand(x, 0, 0, 0, 5, 50, 5);
        Arena.hand(x, 0, 0, 0, 4, 50, 5);
        roundsAre(check, x, "a tenth of a number more", 1, 1);
        int[] shorter = {10, 23};
        int[] threefold = {30, 69};
        InkRing y = bySlope(8, 71, shorter, threefold);
        check.due("mark of one", 9.138361930847168, () -> (double) y.marked(0, 0, false));
        check.due("mark of other", 9.138360977172852, () -> (double) y.marked(0, 0, true));
        roundsAre(check, y, "more by the last digit of the float", 1, 0);
        InkRing z = bySlope(8, 71, threefold, shorter);
        roundsAre(check, z, "less by the last digit of the float", 0, 1);
    }

    /** Judge 0 knows a style (by nearness) from day 0, a second one (by order) from the day it is told. */
    private static InkRing orderLearned(int daysLater) {
        InkRing x = Arena.plain();
        x.style(1, 0, 0, 100);
        x.duel(2, 4, 0, 0, 1, 0);
        Arena.hand(x, 0, 0, 0, 0, 50, 0, 1, 1, 2, 2);
        Arena.hand(x, 0, 0, 0, 50, 50, 50);
        if (daysLater > 0) {
            x.pass(daysLater);
        }
        x.learn(0, 1);
        return x;
    }

    private static void stylesOfTheDay(Check check) {
        InkRing x = orderLearned(0);
        check.due("mark of one, by nearness", 10.0f, () -> x.marked(0, 0, false));
        check.due("mark of other, by order", 10.0f, () -> x.marked(0, 0, true));
        roundsAre(check, x, "learned that day", 0, 0);
        roundsAre(check, orderLearned(1), "learned the day after", 1, 0);
        roundsAre(check, orderLearned(100), "learned long after", 1, 0);
    }

    private static void weightsOfNow(Check check) {
        InkRing x = Arena.plain();
        x.duel(2, 4, 0, 0, 1, 0);
        Arena.hand(x, 0, 0, 0, 0, 50, 0, 1, 1, 2, 2);
        Arena.hand(x, 0, 0, 0, 50, 50, 50);
        roundsAre(check, x, "by nearness", 1, 0);
        x.pass(100);
        x.style(0, 0, 0, 1);
        roundsAre(check, x, "by order", 0, 1);
        check.due("and the other wins", 4, () -> x.of(0, 3));
        x.style(0, 0, 0, 0);
        roundsAre(check, x, "by nothing", 0, 0);
        check.due("and nobody wins", -1, () -> x.of(0, 3));
        x.style(0, 1, 0, 0);
        roundsAre(check, x, "by the least nearness", 1, 0);
        check.due("the mark as the weights are now", 0.1f, () -> x.marked(0, 0, false));
    }

    private static void alike(Check check) {
        InkRing x = Arena.plain();
        x.duel(2, 4, 0, 0, 2, 0);
        for (int k = 0; k < 2; k++) {
            Arena.handOff(x, 0, 0, 40 * k);
            Arena.handOff(x, 0, 0, 40 * k);
        }
        roundsAre(check, x, "the same twice", 0, 0);
        check.due("nobody wins", -1, () -> x.of(0, 3));
        InkRing y = bySlope(99, 1, new int[] {67, -36}, new int[] {55, 31});
        roundsAre(check, y, "other ways, alike as floats", 0, 0);
        InkRing z = bySlope(1, 0, new int[] {0, 9}, new int[] {-9, 0});
        roundsAre(check, z, "both at 0.0f", 0, 0);
    }

    /** Writers 2 and 4, one round, both seals forged; one's writing pushed aside by so much, other's by 10. */
    private static InkRing bothForged(int offOfOne) {
        InkRing x = Arena.plain();
        x.duel(2, 4, 0, 0, 1, 0);
        Arena.handOff(x, 0, Arena.forged(2, 1), offOfOne);
        Arena.handOff(x, 0, Arena.forged(4, 2), 10);
        return x;
    }

    private static void foundLoses(Check check) {
        int[] offs = {0, 10, 20};
        int[] toOneBefore = {1, 0, 0};
        for (int k = 0; k < 3; k++) {
            InkRing x = bothForged(offs[k]);
            check.due("before, off " + offs[k], toOneBefore[k], () -> x.of(0, 1));
            x.look(0, 0, false);
            roundsAre(check, x, "one's is found, off " + offs[k], 0, 1);
            InkRing y = bothForged(offs[k]);
            y.look(0, 0, true);
            roundsAre(check, y, "other's is found, off " + offs[k], 1, 0);
        }
        InkRing x = Arena.plain();
        x.duel(2, 4, 0, 0, 1, 0);
        Arena.handOff(x, 0, Arena.seal(2, 1), 0);
        Arena.handOff(x, 0, Arena.seal(4, 2), 10);
        x.look(0, 0, false);
        roundsAre(check, x, "a right one loses nothing", 1, 0);
    }

    private static void othersNotFound(Check check) {
        InkRing x = Arena.plain();
        x.duel(2, 4, 0, 0, 2, 0);
        Arena.handOff(x, 0, Arena.forged(2, 1), 0);
        x.look(0, 0, false);
        roundsAre(check, x, "found, other has not handed in", 0, 0);
        Arena.handOff(x, 0, Arena.forged(4, 2), 99);
        roundsAre(check, x, "other has handed in, forged and not found", 0, 1);
        Arena.handOff(x, 0, Arena.forged(2, 3), 0);
        Arena.handOff(x, 0, Arena.seal(4, 4), 99);
        x.look(0, 1, true);
        roundsAre(check, x, "other's right seal is looked at", 1, 1);
        x.look(0, 1, false);
        roundsAre(check, x, "one's forged seal is looked at", 0, 2);
    }

    private static void bothFound(Check check) {
        for (int off : new int[] {0, 10, 20}) {
            InkRing x = bothForged(off);
            x.look(0, 0, false);
            x.look(0, 0, true);
            roundsAre(check, x, "both found, off " + off, 0, 0);
            check.due("nobody wins, off " + off, -1, () -> x.of(0, 3));
            InkRing y = bothForged(off);
            y.look(0, 0, true);
            y.look(0, 0, false);
            roundsAre(check, y, "other's found first, off " + off, 0, 0);
        }
    }

    // ---- who wins

    /** A duel of writers 2 and 4 in which the rounds go as told: 1 to one, -1 to other, 0 to nobody. */
    private static InkRing wonRounds(int allRounds, int... went) {
        InkRing x = Arena.plain();
        x.learn(1, 0);
        x.duel(2, 4, 0, 0, allRounds, 0);
        for (int each : went) {
            Arena.handOff(x, 0, 0, 10);
            Arena.handOff(x, 0, 0, 10 + each);
        }
        return x;
    }

    private static void notBeforeAllRounds(Check check) {
        InkRing x = wonRounds(5, 1, 1, 1, 1);
        check.due("four of five, all to one", -1, () -> x.of(0, 3));
        check.due("nothing won", 0, () -> x.won(2));
        Arena.handOff(x, 0, 0, 0);
        check.due("one more writing", -1, () -> x.of(0, 3));
        check.due("nothing won yet", 0, () -> x.won(2));
        Arena.handOff(x, 0, 0, 0);
        check.due("all ten", 2, () -> x.of(0, 3));
        check.due("won", 1, () -> x.won(2));
        check.due("nothing handed in", -1, () -> wonRounds(1).of(0, 3));
        check.due("nothing handed in, nothing won", 0, () -> wonRounds(1).won(2));
    }

    private static void winnerIs(Check check, int due, int... went) {
        InkRing x = wonRounds(went.length, went);
        check.due("of " + went.length, due, () -> x.of(0, 3));
        check.due("won by one", due == 2 ? 1 : 0, () -> x.won(2));
        check.due("won by other", due == 4 ? 1 : 0, () -> x.won(4));
        check.due("told by the appeal", due, () -> x.appeal(0, 1));
    }

    private static void moreRounds(Check check) {
        winnerIs(check, 2, 1);
        winnerIs(check, 4, -1);
        winnerIs(check, 2, 1, 0);
        winnerIs(check, 4, 0, -1);
        winnerIs(check, 2, 1, -1, 1);
        winnerIs(check, 4, -1, -1, 1, 1, -1);
        winnerIs(check, 2, 0, 0, 1, 0, 0);
        winnerIs(check, 4, -1, -1, -1, -1, -1);
    }

    private static void asManyRounds(Check check) {
        winnerIs(check, -1, 0);
        winnerIs(check, -1, 1, -1);
        winnerIs(check, -1, -1, 1, 0);
        winnerIs(check, -1, 1, 1, -1, -1, 0);
        winnerIs(check, -1, 0, 0, 0, 0, 0);
    }

    // ---- appeals

    /** Judge 0 goes by nearness, judge 1 by order; one has two strokes, near; other one stroke, far. */
    private static InkRing appealable() {
        InkRing x = Arena.plain();
        x.style(1, 0, 0, 100);
        x.learn(1, 1);
        x.duel(2, 4, 0, 0, 5, 0);
        for (int k = 0; k < 5; k++) {
            Arena.hand(x, 0, 0, 0, 0, 50, 0, 1, 1, 2, 2);
            Arena.hand(x, 0, 0, 0, 10 * k, 50, 10 * k);
        }
        return x;
    }

    private static void allRoundsByTheMean(Check check) {
        InkRing x = appealable();
        roundsAre(check, x, "by one judge", 4, 0);
        check.due("the other wins by both", 4, () -> x.appeal(0, 1));
        roundsAre(check, x, "by both", 0, 5);
        for (int k = 0; k < 5; k++) {
            int round = k;
            check.due("mean of one, round " + k, 5.0f, () -> x.marked(0, round, false));
            check.due("mean of other, round " + k, 10.0f - (float) round, () -> x.marked(0, round, true));
        }
        InkRing y = appealable();
        y.style(1, 0, 0, 40);
        check.due("nobody by less weight of order", -1, () -> y.appeal(0, 1));
        roundsAre(check, y, "alike in the middle", 2, 2);
        y.style(1, 0, 0, 10);
        roundsAre(check, y, "still less weight of order", 4, 1);
        check.due("one wins by that", 2, () -> y.of(0, 3));
    }

    private static void sumDividedBy2(Check check) {
        InkRing x = appealable();
        check.due("by no style of the second", 2, () -> x.appeal(0, 2));
        check.due("the half of 10.0f", 5.0f, () -> x.marked(0, 4, false));
        check.due("the half of 2.0f", 1.0f, () -> x.marked(0, 4, true));
        InkRing y = appealable();
        y.style(0, 3, 0, 0);
        y.style(1, 0, 0, 7);
        y.appeal(0, 1);
        float byNearness = 3.0f * (10.0f - 20.0f / 10.0f) / 100.0f;
        float byOrder = 7.0f * 10.0f / 100.0f;
        check.due("of 0.24 and 0.7", (byNearness + byOrder) / 2.0f, () -> y.marked(0, 1, true));
    }

    private static void whatEachKnew(Check check) {
        InkRing x = appealable();
        x.learn(3, 1);
        check.due("learned that day, behind the end", 4, () -> x.appeal(0, 3));
        InkRing y = appealable();
        y.pass(1);
        y.learn(3, 1);
        check.due("learned the day after", 2, () -> y.appeal(0, 3));
        check.due("half of the first judge's mark", 5.0f, () -> y.marked(0, 0, false));
        InkRing z = appealable();
        z.pass(1);
        z.learn(0, 1);
        check.due("the first judge learned the day after", 4, () -> z.appeal(0, 1));
        check.due("the first by nearness as before", 5.0f, () -> z.marked(0, 0, false));
        check.due("mean as before", 6.0f, () -> z.marked(0, 4, true));
    }

    private static void appealedOnce(Check check) {
        InkRing x = appealable();
        x.duel(2, 4, 2, 0, 1, 0);
        Arena.handOff(x, 1, 0, 0);
        Arena.handOff(x, 1, 0, 0);
        check.due("once", 4, () -> x.appeal(0, 1));
        for (int k = 0; k < 4; k++) {
            int judge = k;
            check.due("twice, by " + k, Check.NOT_NOW, () -> x.appeal(0, judge));
        }
        check.due("the second judge stays", 1, () -> x.of(0, 5));
        check.due("another duel, once", -1, () -> x.appeal(1, 1));
        check.due("another duel, twice", Check.NOT_NOW, () -> x.appeal(1, 1));
    }
}
