/** Promises 14 to 20: prompt, mark, part, marked, of, paper, won. */
final class QuestionSentences {
    private QuestionSentences() {
    }

    static void tell(Sentences s) {
        tellPrompt(s);
        tellMark(s);
        tellPart(s);
        tellMarked(s);
        tellOf(s);
        tellPaper(s);
        tellWon(s);
    }

    private static void tellPrompt(Sentences s) {
        s.in("Promise 14: prompt");
        s.holds("Returns the prompt of a round of a duel", QuestionSentences::promptOfARound);
        s.holds("- `duel`: its number", QuestionSentences::promptOfTheDuel);
        s.holds("- `round`: from 0 to less than its rounds", QuestionSentences::promptLessThanItsRounds);
        s.holds("Returns the sign", QuestionSentences::promptIsTheSign);
        s.holds("if there is no such duel", QuestionSentences::promptNoSuchDuel);
        s.holds("duel or round", QuestionSentences::promptNoSuchRound);
    }

    private static void tellMark(Sentences s) {
        s.in("Promise 15: mark");
        s.holds("Returns the mark of the draft for a sign by a style", QuestionSentences::markOfTheDraft);
        s.holds("on paper that is not damp", QuestionSentences::markNotDamp);
        s.holds("- `sign`: its number", QuestionSentences::markForSigns);
        s.holds("- `style`: 0 to 3", QuestionSentences::markByStyles);
        s.holds("Returns the mark.", QuestionSentences::markLeastAndGreatest);
        s.holds("if there is no such sign", QuestionSentences::markNoSuchSign);
        s.holds("sign or style", QuestionSentences::markNoSuchStyle);
    }

    private static void tellPart(Sentences s) {
        s.in("Promise 16: part");
        s.holds("Returns a part of the mark of a stroke of the draft", QuestionSentences::partOfAStroke);
        s.holds("on paper that is not damp", QuestionSentences::partNotDamp);
        s.holds("- `sign`: its number", QuestionSentences::partForSigns);
        s.holds("- `stroke`: from 0, of the draft and the sign", QuestionSentences::partStrokes);
        s.holds("- `what`: 0 its nearness, 1 its slope, 2 its order", QuestionSentences::partWhat);
        s.holds("Returns the number", QuestionSentences::partLeastAndGreatest);
        s.holds("if there is no such sign", QuestionSentences::partNoSuchSign);
        s.holds("or no such stroke of either", QuestionSentences::partNoSuchStroke);
        s.holds("Throws `IllegalArgumentException` if what is out of range", QuestionSentences::partWhatOutOfRange);
    }

    private static void tellMarked(Sentences s) {
        s.in("Promise 17: marked");
        s.holds("Returns the mark of a writing in a duel, by its judge", QuestionSentences::markedByItsJudge);
        s.holds("or by both", QuestionSentences::markedByBoth);
        s.holds("- `duel`: its number", QuestionSentences::markedInTheDuel);
        s.holds("- `round`: from 0", QuestionSentences::markedInTheRound);
        s.holds("- `other`: whether that of the other writer is told", QuestionSentences::markedOfTheOther);
        s.holds("Returns the mark.", QuestionSentences::markedLeastAndGreatest);
        s.holds("if there is no such duel", QuestionSentences::markedNoSuchDuel);
        s.holds("or it was not handed in in that round", QuestionSentences::markedNotHandedIn);
    }

    private static void tellOf(Sentences s) {
        s.in("Promise 18: of");
        s.holds("Tells something of a duel", QuestionSentences::ofANewDuel);
        s.holds("- `duel`: its number", QuestionSentences::ofTheDuel);
        s.holds("0 how many writings were handed in", QuestionSentences::ofWritings);
        s.holds("1 and 2 how many rounds went to the one and to the other one", QuestionSentences::ofRounds);
        s.holds("3 who won it, NONE for nobody", QuestionSentences::ofWinner);
        s.holds("or as long as it goes on", QuestionSentences::ofWhileItGoesOn);
        s.holds("4 its day", QuestionSentences::ofDay);
        s.holds("5 the second judge, NONE", QuestionSentences::ofSecondJudge);
        s.holds("Returns the number", QuestionSentences::ofWritings);
        s.holds("Throws `IndexOutOfBoundsException` if there is no such duel", QuestionSentences::ofNoSuchDuel);
        s.holds("Throws `IllegalArgumentException` if what is out of range", QuestionSentences::ofWhatOutOfRange);
    }

    private static void tellPaper(Sentences s) {
        s.in("Promise 19: paper");
        s.holds("Tells something of a paper", QuestionSentences::paperOfEach);
        s.holds("- `paper`: 0 to 2", QuestionSentences::paperLeastAndGreatest);
        s.holds("- `what`: 0 its sheets", QuestionSentences::paperSheets);
        s.holds("1 its damp", QuestionSentences::paperDamp);
        s.holds("Returns the number", QuestionSentences::paperOfEach);
        s.holds("Throws `IndexOutOfBoundsException` if there is no such paper", QuestionSentences::paperNoSuch);
        s.holds("Throws `IllegalArgumentException` if what is out of range", QuestionSentences::paperWhatOutOfRange);
    }

    private static void tellWon(Sentences s) {
        s.in("Promise 20: won");
        s.holds("Returns how many duels a writer has won", QuestionSentences::wonFromNoneToAll);
        s.holds("Returns how many duels a writer has won", QuestionSentences::wonAsTheyEnd);
        s.holds("- `writer`: 0 to 7", QuestionSentences::wonByWriters);
        s.holds("Returns how many.", QuestionSentences::wonByNobody);
        s.holds("Throws `IndexOutOfBoundsException` if there is no such writer", QuestionSentences::wonNoSuchWriter);
    }

    /** Signs of so many strokes each as their number and one, six of them at most. */
    private static InkRing signs(int count) {
        InkRing x = new InkRing();
        for (int k = 1; k <= count; k++) {
            Arena.draftOf(x, k);
            x.sign();
        }
        return x;
    }

    /** A duel of writers 2 and 4 for the plain sign, so much of it handed in, each 1 more aside. */
    private static InkRing handedIn(int rounds, int writings) {
        InkRing x = Arena.plain();
        x.duel(2, 4, 0, 0, rounds, 0);
        for (int k = 0; k < writings; k++) {
            Arena.handOff(x, 0, 0, k);
        }
        return x;
    }

    private static InkRing allDuels() {
        InkRing x = Arena.plain();
        for (int k = 0; k < 12; k++) {
            x.duel(0, 1, 0, 0, 1, 0);
            Arena.handOff(x, k, 0, k);
        }
        return x;
    }

    // ---- prompt

    private static void promptOfARound(Check check) {
        InkRing x = signs(6);
        x.duel(0, 1, 0, 0, 5, 999);
        x.duel(0, 1, 0, 0, 5, 0);
        int[] first = {3, 2, 1, 0, 5};
        int[] second = {0, 5, 4, 3, 2};
        for (int k = 0; k < 5; k++) {
            int round = k;
            check.due("draw 999, round " + k, first[k], () -> x.prompt(0, round));
            check.due("draw 0, round " + k, second[k], () -> x.prompt(1, round));
        }
    }

    private static void promptOfTheDuel(Check check) {
        InkRing x = signs(6);
        for (int k = 0; k < 12; k++) {
            x.duel(0, 1, 0, 0, 1, 5 * k);
        }
        for (int k = 0; k < 12; k++) {
            int duel = k;
            check.due("of duel " + k, 5 * duel % 6, () -> x.prompt(duel, 0));
        }
    }

    private static void promptLessThanItsRounds(Check check) {
        for (int k = 1; k <= 5; k++) {
            int rounds = k;
            Twins.Making begun = () -> {
                InkRing x = signs(2);
                x.duel(0, 1, 0, 0, rounds, 0);
                return x;
            };
            for (int each = 0; each < rounds; each++) {
                int round = each;
                check.due("round " + each + " of " + k, round % 2, () -> begun.make().prompt(0, round));
            }
            Twins.refusedBeyond(check, "of " + k, Check.NO_SUCH, 0, rounds - 1, begun, (x, n) -> x.prompt(0, n));
        }
    }

    private static void promptIsTheSign(Check check) {
        for (int k = 1; k <= 6; k++) {
            InkRing x = signs(k);
            int last = k - 1;
            x.duel(0, 1, 0, 0, 1, last);
            x.duel(0, 1, 0, 0, 1, k);
            check.due("the last of " + k, last, () -> x.prompt(0, 0));
            check.due("the first of " + k + " again", 0, () -> x.prompt(1, 0));
        }
    }

    private static void promptNoSuchDuel(Check check) {
        Twins.refusedBeyond(check, "none", Check.NO_SUCH, 0, -1, () -> signs(3), (x, n) -> x.prompt(n, 0));
        Twins.refusedBeyond(check, "three", Check.NO_SUCH, 0, 2, Twins::midway, (x, n) -> x.prompt(n, 0));
        Twins.refusedBeyond(check, "twelve", Check.NO_SUCH, 0, 11, Twins::full, (x, n) -> x.prompt(n, 0));
    }

    private static void promptNoSuchRound(Check check) {
        Twins.refusedBeyond(check, "of one", Check.NO_SUCH, 0, 0, Twins::midway, (x, n) -> x.prompt(0, n));
        Twins.refusedBeyond(check, "of three", Check.NO_SUCH, 0, 2, Twins::midway, (x, n) -> x.prompt(1, n));
        Twins.refusedBeyond(check, "of five", Check.NO_SUCH, 0, 4, () -> handedIn(5, 3), (x, n) -> x.prompt(0, n));
        Twins.refusedBeyond(check, "over", Check.NO_SUCH, 0, 4, () -> handedIn(5, 10), (x, n) -> x.prompt(0, n));
    }

    // ---- mark

    private static void markOfTheDraft(Check check) {
        InkRing x = signs(6);
        x.style(2, 0, 0, 100);
        check.due("an empty draft", 0.0f, () -> x.mark(0, 2));
        for (int k = 1; k <= 8; k++) {
            x.stroke(k - 1, 0, 50, 50);
            for (int sign = 0; sign < 6; sign++) {
                int asked = sign;
                float due = k == sign + 1 ? 10.0f : 0.0f;
                check.due(k + " strokes for sign " + sign, due, () -> x.mark(asked, 2));
            }
        }
        x.clear();
        check.due("an emptied draft", 0.0f, () -> x.mark(5, 2));
    }

    private static InkRing damp() {
        InkRing x = Arena.plain();
        for (int k = 0; k < 3; k++) {
            x.rise(k, 10);
        }
        x.pass(10);
        Arena.draft(x, 0, 10, 50, 10);
        return x;
    }

    private static void markNotDamp(Check check) {
        InkRing x = damp();
        check.due("all papers as damp as can be", 8.0f, () -> x.mark(0, 0));
        x.duel(0, 1, 0, 0, 1, 0);
        x.hand(0, 0);
    }

    private static void markForSigns(Check check) {
        InkRing x = new InkRing();
        for (int k = 0; k < 6; k++) {
            Arena.sign(x, 0, 0, 50, 10 * k);
        }
        x.style(0, 100, 0, 0);
        Arena.draft(x, 0, 0, 50, 0);
        for (int k = 0; k < 6; k++) {
            int sign = k;
            check.due("sign " + k, 10.0f - (float) k, () -> x.mark(sign, 0));
        }
    }

    private static void markByStyles(Check check) {
        InkRing x = new InkRing();
        Arena.sign(x, 0, 0, 50, 0);
        for (int k = 0; k < 4; k++) {
            x.style(k, 0, 0, 10 * k + 10);
        }
        Arena.draft(x, 0, 0, 50, 0);
        for (int k = 0; k < 4; k++) {
            int style = k;
            check.due("style " + k, 1.0f + (float) k, () -> x.mark(0, style));
        }
        check.due("style 4", Check.NO_SUCH, () -> x.mark(0, 4));
        check.due("style -1", Check.NO_SUCH, () -> x.mark(0, -1));
    }

    private static void markLeastAndGreatest(Check check) {
        for (int k = 1; k <= 6; k++) {
            int strokes = k;
            InkRing x = new InkRing();
            for (int each = 0; each < strokes; each++) {
                x.stroke(0, 0, 99, 99);
            }
            x.sign();
            x.style(0, 100, 100, 100);
            check.due("nothing for " + k, 0.0f, () -> x.mark(0, 0));
            for (int each = 0; each < strokes; each++) {
                x.stroke(0, 0, 99, 99);
            }
            check.due("the very same for " + k, 30.0f, () -> x.mark(0, 0));
            x.clear();
            for (int each = 0; each < 8; each++) {
                x.stroke(99, 99, 0, 0);
            }
            check.due("far off and back, one too many at least, for " + k, 0.0f, () -> x.mark(0, 0));
        }
    }

    private static void markNoSuchSign(Check check) {
        Twins.refusedBeyond(check, "none", Check.NO_SUCH, 0, -1, InkRing::new, (x, n) -> x.mark(n, 0));
        Twins.refusedBeyond(check, "three", Check.NO_SUCH, 0, 2, Twins::midway, (x, n) -> x.mark(n, 3));
        Twins.refusedBeyond(check, "six", Check.NO_SUCH, 0, 5, Twins::full, (x, n) -> x.mark(n, 0));
    }

    private static void markNoSuchStyle(Check check) {
        Twins.refusedBeyond(check, "of three signs", Check.NO_SUCH, 0, 3, Twins::midway, (x, n) -> x.mark(2, n));
        Twins.refusedBeyond(check, "of six signs", Check.NO_SUCH, 0, 3, Twins::full, (x, n) -> x.mark(5, n));
        Twins.refusedBeyond(check, "and no sign", Check.NO_SUCH, 0, 3, InkRing::new, (x, n) -> x.mark(0, n));
    }

    // ---- part

    private static void partOfAStroke(Check check) {
        InkRing x = new InkRing();
        Arena.sign(x, 0, 0, 50, 0, 0, 50, 50, 50);
        Arena.draft(x, 0, 10, 50, 10, 50, 50, 0, 50);
        float[][] due = {{8.0f, 10.0f, 10.0f}, {0.0f, 0.0f, 10.0f}};
        for (int k = 0; k < 6; k++) {
            int stroke = k / 3;
            int what = k % 3;
            check.due("stroke " + stroke + ", part " + what, due[stroke][what], () -> x.part(0, stroke, what));
        }
    }

    private static void partNotDamp(Check check) {
        InkRing x = damp();
        check.due("all papers as damp as can be", 8.0f, () -> x.part(0, 0, 0));
    }

    private static void partForSigns(Check check) {
        InkRing x = new InkRing();
        for (int k = 0; k < 6; k++) {
            Arena.sign(x, 0, 0, 50, 10 * k);
        }
        Arena.draft(x, 0, 0, 50, 0);
        for (int k = 0; k < 6; k++) {
            int sign = k;
            check.due("sign " + k, 10.0f - (float) k, () -> x.part(sign, 0, 0));
        }
    }

    private static void partStrokes(Check check) {
        for (int strokes = 1; strokes <= 6; strokes++) {
            InkRing x = new InkRing();
            Arena.draftOf(x, strokes);
            x.sign();
            for (int drafted = 0; drafted <= 8; drafted++) {
                int both = Math.min(strokes, drafted);
                String what = drafted + " for " + strokes;
                check.due(what + ", stroke -1", Check.NO_SUCH, () -> x.part(0, -1, 0));
                check.due(what + ", behind the last", Check.NO_SUCH, () -> x.part(0, both, 0));
                if (both > 0) {
                    check.due(what + ", the first", 10.0f, () -> x.part(0, 0, 0));
                    check.due(what + ", the last", 10.0f, () -> x.part(0, both - 1, 0));
                }
                if (drafted < 8) {
                    x.stroke(drafted, 0, 50, 50);
                }
            }
        }
    }

    private static void partWhat(Check check) {
        InkRing x = new InkRing();
        Arena.sign(x, 0, 0, 10, 0);
        Arena.draft(x, 0, 0, 10, 10);
        check.due("0 its nearness", 9.0f, () -> x.part(0, 0, 0));
        check.due("1 its slope", 5.0f, () -> x.part(0, 0, 1));
        check.due("2 its order", 10.0f, () -> x.part(0, 0, 2));
        check.due("no 3", Check.WRONG, () -> x.part(0, 0, 3));
        check.due("no -1", Check.WRONG, () -> x.part(0, 0, -1));
    }

    private static void partLeastAndGreatest(Check check) {
        InkRing x = new InkRing();
        Arena.sign(x, 0, 0, 99, 99);
        Arena.draft(x, 0, 0, 99, 99);
        for (int k = 0; k < 3; k++) {
            int what = k;
            check.due("the greatest, " + k, 10.0f, () -> x.part(0, 0, what));
        }
        x.clear();
        Arena.draft(x, 99, 99, 0, 0, 99, 99, 0, 0);
        for (int k = 0; k < 3; k++) {
            int what = k;
            check.due("the least, " + k, 0.0f, () -> x.part(0, 0, what));
        }
    }

    private static void partNoSuchSign(Check check) {
        Twins.refusedBeyond(check, "none", Check.NO_SUCH, 0, -1, InkRing::new, (x, n) -> x.part(n, 0, 0));
        Twins.refusedBeyond(check, "three", Check.NO_SUCH, 0, 2, Twins::midway, (x, n) -> x.part(n, 0, 1));
        Twins.refusedBeyond(check, "six", Check.NO_SUCH, 0, 5, Twins::full, (x, n) -> x.part(n, 0, 2));
        Twins.refusedBeyond(check, "and what", Check.NO_SUCH, 0, 5, Twins::full, (x, n) -> x.part(n, 0, 3));
    }

    private static void partNoSuchStroke(Check check) {
        Twins.refusedBeyond(check, "one of the sign", Check.NO_SUCH, 0, 0, Twins::midway, (x, n) -> x.part(0, n, 0));
        Twins.refusedBeyond(check, "two of the draft", Check.NO_SUCH, 0, 1, Twins::midway, (x, n) -> x.part(2, n, 0));
        Twins.refusedBeyond(check, "eight of the draft", Check.NO_SUCH, 0, 0, Twins::full, (x, n) -> x.part(5, n, 0));
        Twins.NumberedCall ofSix = (x, n) -> x.part(5, n, 0);
        Twins.refusedBeyond(check, "six of a sign, none drafted", Check.NO_SUCH, 0, -1, () -> signs(6), ofSix);
        Twins.Making eightForSix = () -> {
            InkRing x = signs(6);
            Arena.draftOf(x, 8);
            return x;
        };
        Twins.refusedBeyond(check, "eight for six", Check.NO_SUCH, 0, 5, eightForSix, ofSix);
        check.due("the sixth of both", 10.0f, () -> eightForSix.make().part(5, 5, 0));
    }

    private static void partWhatOutOfRange(Check check) {
        Twins.refusedBeyond(check, "what", Check.WRONG, 0, 2, Twins::midway, (x, n) -> x.part(0, 0, n));
        Twins.refusedBeyond(check, "what, the last stroke", Check.WRONG, 0, 2, Twins::midway, (x, n) -> x.part(2, 1, n));
        Twins.refusedBeyond(check, "what, full", Check.WRONG, 0, 2, Twins::full, (x, n) -> x.part(5, 0, n));
    }

    // ---- marked

    private static void markedByItsJudge(Check check) {
        InkRing x = Arena.plain();
        x.style(3, 0, 0, 100);
        x.learn(3, 3);
        for (int k = 0; k < 4; k++) {
            x.duel(0, 1, k, 0, 1, 0);
            Arena.handOff(x, k, 0, 20);
        }
        float[] due = {6.0f, 0.0f, 0.0f, 10.0f};
        for (int k = 0; k < 4; k++) {
            int judge = k;
            check.due("judge " + k, due[k], () -> x.marked(judge, 0, false));
        }
    }

    private static void markedByBoth(Check check) {
        InkRing x = Arena.plain();
        x.style(3, 0, 0, 100);
        x.learn(3, 3);
        x.duel(0, 1, 0, 0, 1, 0);
        Arena.handOff(x, 0, 0, 20);
        Arena.handOff(x, 0, 0, 0);
        check.due("by its judge, one", 6.0f, () -> x.marked(0, 0, false));
        check.due("by its judge, other", 10.0f, () -> x.marked(0, 0, true));
        x.appeal(0, 3);
        check.due("by both, one", 8.0f, () -> x.marked(0, 0, false));
        check.due("by both, other", 10.0f, () -> x.marked(0, 0, true));
    }

    private static void markedInTheDuel(Check check) {
        InkRing x = allDuels();
        for (int k = 0; k < 12; k++) {
            int duel = k;
            check.due("duel " + k, 10.0f - (float) (2 * k) / 10.0f, () -> x.marked(duel, 0, false));
        }
    }

    private static void markedInTheRound(Check check) {
        InkRing x = handedIn(5, 10);
        for (int k = 0; k < 5; k++) {
            int round = k;
            check.due("round " + k, 10.0f - (float) (4 * k) / 10.0f, () -> x.marked(0, round, false));
        }
        Twins.NumberedCall call = (y, n) -> y.marked(0, n, false);
        Twins.refusedBeyond(check, "round", Check.NO_SUCH, 0, 4, () -> handedIn(5, 10), call);
    }

    private static void markedOfTheOther(Check check) {
        InkRing x = handedIn(5, 10);
        for (int k = 0; k < 5; k++) {
            int round = k;
            check.due("round " + k, 10.0f - (float) (4 * k + 2) / 10.0f, () -> x.marked(0, round, true));
        }
        Twins.NumberedCall call = (y, n) -> y.marked(0, n, true);
        Twins.refusedBeyond(check, "round", Check.NO_SUCH, 0, 4, () -> handedIn(5, 10), call);
    }

    private static void markedLeastAndGreatest(Check check) {
        InkRing x = new InkRing();
        Arena.sign(x, 0, 0, 99, 99);
        x.style(0, 100, 100, 100);
        x.learn(0, 0);
        x.buy(0, 2);
        x.duel(0, 1, 0, 0, 1, 0);
        Arena.hand(x, 0, 0, 0, 0, 99, 99);
        Arena.hand(x, 0, 0, 99, 99, 0, 0, 99, 99, 0, 0);
        check.due("the greatest", 30.0f, () -> x.marked(0, 0, false));
        check.due("the least", 0.0f, () -> x.marked(0, 0, true));
    }

    private static void markedNoSuchDuel(Check check) {
        Twins.refusedBeyond(check, "none", Check.NO_SUCH, 0, -1, InkRing::new, (x, n) -> x.marked(n, 0, false));
        Twins.refusedBeyond(check, "three", Check.NO_SUCH, 0, 2, Twins::midway, (x, n) -> x.marked(n, 0, false));
        Twins.Making twelve = QuestionSentences::allDuels;
        Twins.refusedBeyond(check, "twelve", Check.NO_SUCH, 0, 11, twelve, (x, n) -> x.marked(n, 0, false));
    }

    private static void markedNotHandedIn(Check check) {
        for (int k = 0; k <= 10; k++) {
            InkRing x = handedIn(5, k);
            int writings = k;
            for (int each = 0; each < 10; each++) {
                int number = each;
                Object mark = number < writings ? 10.0f - (float) (2 * number) / 10.0f : Check.NO_SUCH;
                check.due("writing " + number + " of " + writings, mark, () -> x.marked(0, number / 2, number % 2 == 1));
            }
        }
        Twins.refused(check, "nothing", Check.NO_SUCH, () -> handedIn(1, 0), x -> x.marked(0, 0, false));
        Twins.refused(check, "other's", Check.NO_SUCH, () -> handedIn(1, 1), x -> x.marked(0, 0, true));
        Twins.refused(check, "the next round", Check.NO_SUCH, () -> handedIn(2, 2), x -> x.marked(0, 1, false));
        Twins.refused(check, "behind the last", Check.NO_SUCH, () -> handedIn(1, 2), x -> x.marked(0, 1, true));
        Twins.refused(check, "behind the fifth", Check.NO_SUCH, () -> handedIn(5, 10), x -> x.marked(0, 5, false));
    }

    // ---- of

    private static void ofANewDuel(Check check) {
        InkRing x = handedIn(5, 0);
        int[] due = {0, 0, 0, -1, 0, -1};
        for (int k = 0; k < 6; k++) {
            int what = k;
            check.due("what " + k, due[k], () -> x.of(0, what));
        }
    }

    private static void ofTheDuel(Check check) {
        InkRing x = Arena.plain();
        for (int k = 0; k < 12; k++) {
            x.duel(0, 1, 0, 0, 1, 0);
            x.pass(1);
        }
        for (int k = 0; k < 12; k++) {
            int duel = k;
            check.due("day of duel " + k, duel, () -> x.of(duel, 4));
        }
    }

    private static void ofWritings(Check check) {
        for (int rounds = 1; rounds <= 5; rounds++) {
            for (int k = 0; k <= 2 * rounds; k++) {
                int writings = k;
                InkRing x = handedIn(rounds, writings);
                check.due("of " + rounds + " rounds", writings, () -> x.of(0, 0));
            }
        }
    }

    private static void ofRounds(Check check) {
        for (int k = 0; k <= 10; k++) {
            int writings = k;
            InkRing x = handedIn(5, writings);
            check.due("to the one, " + k, writings / 2, () -> x.of(0, 1));
            check.due("to the other, " + k, 0, () -> x.of(0, 2));
        }
        InkRing x = Arena.plain();
        x.duel(2, 4, 0, 0, 5, 0);
        int[] toOther = {0, 0, 1, 1, 2, 2};
        int[] toOne = {0, 1, 1, 1, 1, 2};
        int[][] offs = {{0, 1}, {1, 0}, {1, 1}, {9, 8}, {0, 30}};
        for (int k = 0; k <= 5; k++) {
            int rounds = k;
            check.due("to the one of " + k, toOne[rounds], () -> x.of(0, 1));
            check.due("to the other of " + k, toOther[rounds], () -> x.of(0, 2));
            if (k < 5) {
                Arena.handOff(x, 0, 0, offs[k][0]);
                Arena.handOff(x, 0, 0, offs[k][1]);
            }
        }
    }

    private static void ofWinner(Check check) {
        int[][] writers = {{0, 7}, {7, 0}, {3, 4}};
        for (int[] pair : writers) {
            for (int off = -1; off <= 1; off++) {
                InkRing x = Arena.plain();
                x.duel(pair[0], pair[1], 0, 0, 1, 0);
                Arena.handOff(x, 0, 0, 5);
                Arena.handOff(x, 0, 0, 5 + off);
                int due = off == 0 ? InkRing.NONE : off > 0 ? pair[0] : pair[1];
                check.due("of " + pair[0] + " and " + pair[1], due, () -> x.of(0, 3));
            }
        }
    }

    private static void ofWhileItGoesOn(Check check) {
        for (int rounds = 1; rounds <= 5; rounds++) {
            for (int k = 0; k <= 2 * rounds; k++) {
                int writings = k;
                int due = writings == 2 * rounds ? 2 : InkRing.NONE;
                InkRing x = handedIn(rounds, writings);
                check.due(k + " of " + rounds + " rounds", due, () -> x.of(0, 3));
            }
        }
    }

    private static void ofDay(Check check) {
        InkRing x = Arena.plain();
        x.duel(0, 1, 0, 0, 1, 0);
        for (int k = 0; k < 50; k++) {
            x.pass(100);
        }
        x.duel(0, 1, 0, 0, 1, 0);
        check.due("the first day", 0, () -> x.of(0, 4));
        check.due("the last day", 5000, () -> x.of(1, 4));
    }

    private static void ofSecondJudge(Check check) {
        for (int k = 1; k < 4; k++) {
            InkRing x = handedIn(1, 2);
            int judge = k;
            check.due("none", InkRing.NONE, () -> x.of(0, 5));
            check.due("refused", Check.NOT_NOW, () -> x.appeal(0, 0));
            check.due("none by a refused one", InkRing.NONE, () -> x.of(0, 5));
            x.appeal(0, judge);
            check.due("judge " + k, judge, () -> x.of(0, 5));
        }
        InkRing x = Arena.plain();
        x.duel(2, 4, 3, 0, 1, 0);
        Arena.handOff(x, 0, 0, 0);
        Arena.handOff(x, 0, 0, 0);
        x.appeal(0, 0);
        check.due("judge 0", 0, () -> x.of(0, 5));
    }

    private static void ofNoSuchDuel(Check check) {
        for (int k = 0; k < 6; k++) {
            int what = k;
            Twins.refusedBeyond(check, "none", Check.NO_SUCH, 0, -1, InkRing::new, (x, n) -> x.of(n, what));
            Twins.refusedBeyond(check, "three", Check.NO_SUCH, 0, 2, Twins::midway, (x, n) -> x.of(n, what));
            Twins.refusedBeyond(check, "twelve", Check.NO_SUCH, 0, 11, Twins::full, (x, n) -> x.of(n, what));
        }
    }

    private static void ofWhatOutOfRange(Check check) {
        for (int k = 0; k < 3; k++) {
            int duel = k;
            Twins.refusedBeyond(check, "duel " + k, Check.WRONG, 0, 5, Twins::midway, (x, n) -> x.of(duel, n));
        }
        Twins.refusedBeyond(check, "the last duel", Check.WRONG, 0, 5, Twins::full, (x, n) -> x.of(11, n));
    }

    // ---- paper

    private static void paperOfEach(Check check) {
        InkRing x = new InkRing();
        for (int k = 0; k < 3; k++) {
            x.buy(k, k + 1);
            x.rise(k, k + 4);
        }
        x.pass(1);
        for (int k = 0; k < 3; k++) {
            int paper = k;
            check.due("sheets of " + k, paper + 1, () -> x.paper(paper, 0));
            check.due("damp of " + k, paper + 4, () -> x.paper(paper, 1));
        }
    }

    private static void paperLeastAndGreatest(Check check) {
        InkRing x = new InkRing();
        x.buy(0, 1);
        x.buy(2, 100);
        check.due("the least paper", 1, () -> x.paper(0, 0));
        check.due("the paper between", 0, () -> x.paper(1, 0));
        check.due("the greatest paper", 100, () -> x.paper(2, 0));
        for (int bad : new int[] {-1, 3, Integer.MIN_VALUE, Integer.MAX_VALUE}) {
            check.due("sheets of " + bad, Check.NO_SUCH, () -> x.paper(bad, 0));
            check.due("damp of " + bad, Check.NO_SUCH, () -> x.paper(bad, 1));
        }
    }

    private static void paperSheets(Check check) {
        InkRing x = Arena.plain();
        check.due("none", 0, () -> x.paper(2, 0));
        for (int k = 0; k < 9; k++) {
            x.buy(0, 100);
        }
        check.due("the most", 1000, () -> x.paper(0, 0));
        x.duel(0, 1, 0, 0, 1, 0);
        Arena.handOff(x, 0, 0, 0);
        check.due("one is taken", 999, () -> x.paper(0, 0));
    }

    private static void paperDamp(Check check) {
        InkRing x = new InkRing();
        x.rise(2, 10);
        for (int k = 0; k <= 11; k++) {
            int damp = Math.min(100, 10 * k);
            check.due("after " + k + " days", damp, () -> x.paper(2, 1));
            x.pass(1);
        }
        x.rise(2, -10);
        for (int k = 0; k <= 11; k++) {
            int damp = Math.max(0, 100 - 10 * k);
            check.due("back after " + k + " days", damp, () -> x.paper(2, 1));
            x.pass(1);
        }
    }

    private static void paperNoSuch(Check check) {
        for (int k = 0; k < 2; k++) {
            int what = k;
            Twins.refusedBeyond(check, "new", Check.NO_SUCH, 0, 2, InkRing::new, (x, n) -> x.paper(n, what));
            Twins.refusedBeyond(check, "midway", Check.NO_SUCH, 0, 2, Twins::midway, (x, n) -> x.paper(n, what));
        }
        Twins.refusedBeyond(check, "and what", Check.NO_SUCH, 0, 2, Twins::full, (x, n) -> x.paper(n, 2));
    }

    private static void paperWhatOutOfRange(Check check) {
        for (int k = 0; k < 3; k++) {
            int paper = k;
            Twins.refusedBeyond(check, "paper " + k, Check.WRONG, 0, 1, Twins::midway, (x, n) -> x.paper(paper, n));
        }
    }

    // ---- won

    private static void wonFromNoneToAll(Check check) {
        InkRing x = Arena.plain();
        for (int k = 0; k < 12; k++) {
            int won = k;
            check.due("before duel " + k, won, () -> x.won(6));
            x.duel(k % 2 == 0 ? 6 : 1, k % 2 == 0 ? 1 : 6, 0, 0, 1, 0);
            check.due("duel " + k + " is begun", won, () -> x.won(6));
            Arena.handOff(x, k, 0, k % 2 == 0 ? 0 : 9);
            check.due("one writing of duel " + k, won, () -> x.won(6));
            Arena.handOff(x, k, 0, k % 2 == 0 ? 9 : 0);
            check.due("duel " + k + " is over", won + 1, () -> x.won(6));
        }
        check.due("none of the one who lost all", 0, () -> x.won(1));
        x.look(11, 0, true);
        check.due("found forged in the last", 11, () -> x.won(6));
        check.due("so the other one has won it", 1, () -> x.won(1));
    }

    private static void wonAsTheyEnd(Check check) {
        for (int k = 0; k < 10; k++) {
            InkRing x = handedIn(5, k);
            check.due(k + " of ten", 0, () -> x.won(2));
        }
        InkRing x = handedIn(5, 10);
        check.due("all ten", 1, () -> x.won(2));
        x.style(0, 0, 0, 0);
        check.due("without weights", 0, () -> x.won(2));
    }

    private static void wonByWriters(Check check) {
        for (int k = 0; k < 8; k++) {
            InkRing x = Arena.plain();
            int writer = k;
            x.duel(writer, (writer + 1) % 8, 0, 0, 1, 0);
            Arena.handOff(x, 0, 0, 0);
            Arena.handOff(x, 0, 0, 1);
            for (int each = 0; each < 8; each++) {
                int asked = each;
                check.due(k + " won, " + each, asked == writer ? 1 : 0, () -> x.won(asked));
            }
        }
    }

    private static void wonByNobody(Check check) {
        InkRing x = Arena.plain();
        x.duel(0, 1, 0, 0, 1, 0);
        Arena.handOff(x, 0, 0, 0);
        Arena.handOff(x, 0, 0, 0);
        for (int k = 0; k < 8; k++) {
            int writer = k;
            check.due("by " + k, 0, () -> x.won(writer));
            check.due("without a duel, by " + k, 0, () -> new InkRing().won(writer));
        }
    }

    private static void wonNoSuchWriter(Check check) {
        Twins.refusedBeyond(check, "new", Check.NO_SUCH, 0, 7, InkRing::new, (x, n) -> x.won(n));
        Twins.refusedBeyond(check, "midway", Check.NO_SUCH, 0, 7, Twins::midway, (x, n) -> x.won(n));
        Twins.refusedBeyond(check, "full", Check.NO_SUCH, 0, 7, Twins::full, (x, n) -> x.won(n));
    }
}
