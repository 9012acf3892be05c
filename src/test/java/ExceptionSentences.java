/** Of the terms: exceptions and the constant. Each call is refused on arenas alike, one untouched. */
final class ExceptionSentences {
    private static final int[] FAR_OFF = {Integer.MIN_VALUE, Integer.MAX_VALUE};

    private ExceptionSentences() {
    }

    static void tell(Sentences s) {
        s.in("Exceptions");
        s.holds("there is no such sign", ExceptionSentences::noSuchSign);
        s.holds("sign, stroke, paper", ExceptionSentences::noSuchStroke);
        s.holds("stroke, paper, judge", ExceptionSentences::noSuchPaper);
        s.holds("paper, judge, style", ExceptionSentences::noSuchJudge);
        s.holds("judge, style, writer", ExceptionSentences::noSuchStyle);
        s.holds("style, writer, duel", ExceptionSentences::noSuchWriter);
        s.holds("writer, duel or round", ExceptionSentences::noSuchDuel);
        s.holds("duel or round", ExceptionSentences::noSuchRound);
        s.holds("IllegalArgumentException: another argument is out of its range", ExceptionSentences::outOfRange);
        s.holds("IllegalStateException: as the method tells", ExceptionSentences::asTheMethodTells);
        s.holds("the one that is named first in the throws clause is thrown", ExceptionSentences::firstOfStroke);
        s.holds("the one that is named first in the throws clause is thrown", ExceptionSentences::firstOfBuy);
        s.holds("the one that is named first in the throws clause is thrown", ExceptionSentences::firstOfRiseAndStyle);
        s.holds("the one that is named first in the throws clause is thrown", ExceptionSentences::firstOfLearnAndPass);
        s.holds("the one that is named first in the throws clause is thrown", ExceptionSentences::firstOfDuel);
        s.holds("the one that is named first in the throws clause is thrown", ExceptionSentences::firstOfHand);
        s.holds("the one that is named first in the throws clause is thrown", ExceptionSentences::firstOfAppeal);
        s.holds("the one that is named first in the throws clause is thrown", ExceptionSentences::firstOfQuestions);
        s.holds("A call that throws an exception changes nothing", ExceptionSentences::changesNothing);
        s.holds("`NONE = -1`: There is none; nobody", ExceptionSentences::none);
        s.in("Terms");
        s.holds("Questions change nothing", ExceptionSentences::questionsChangeNothing);
    }

    /** Refused on a new arena, midway (of so many such things) and on a full one. */
    private static void refused(Check check, String what, int midway, int full, Twins.NumberedCall call) {
        Twins.refusedBeyond(check, what + ", new", Check.NO_SUCH, 0, -1, InkRing::new, call);
        Twins.refusedBeyond(check, what + ", midway", Check.NO_SUCH, 0, midway - 1, Twins::midway, call);
        Twins.refusedBeyond(check, what + ", full", Check.NO_SUCH, 0, full - 1, Twins::full, call);
    }

    /** The same of what is there from the beginning. */
    private static void refused(Check check, String what, int all, Twins.NumberedCall call) {
        Twins.refusedBeyond(check, what + ", midway", Check.NO_SUCH, 0, all - 1, Twins::midway, call);
        Twins.refusedBeyond(check, what + ", full", Check.NO_SUCH, 0, all - 1, Twins::full, call);
    }

    private static void noSuchSign(Check check) {
        refused(check, "mark, sign", 3, 6, (x, n) -> x.mark(n, 0));
        refused(check, "part, sign", 3, 6, (x, n) -> x.part(n, 0, 0));
    }

    private static void noSuchStroke(Check check) {
        Twins.NumberedCall ofSign1 = (x, n) -> x.part(1, n, 0);
        Twins.refusedBeyond(check, "of two and two", Check.NO_SUCH, 0, 1, Twins::midway, ofSign1);
        Twins.NumberedCall ofSign0 = (x, n) -> x.part(0, n, 0);
        Twins.refusedBeyond(check, "of eight and one", Check.NO_SUCH, 0, 0, Twins::full, ofSign0);
        Twins.NumberedCall ofSign2 = (x, n) -> x.part(2, n, 0);
        Twins.refusedBeyond(check, "of two and three", Check.NO_SUCH, 0, 1, Twins::midway, ofSign2);
        for (int k = -1; k <= 6; k++) {
            int stroke = k;
            Twins.refused(check, "of none, " + k, Check.NO_SUCH, ExceptionSentences::undrafted, x -> x.part(0, stroke, 0));
        }
    }

    private static InkRing undrafted() {
        InkRing x = new InkRing();
        Arena.draftOf(x, 6);
        x.sign();
        return x;
    }

    private static void noSuchPaper(Check check) {
        refused(check, "buy", 3, (x, n) -> x.buy(n, 1));
        refused(check, "rise", 3, (x, n) -> x.rise(n, 1));
        refused(check, "duel", 3, (x, n) -> x.duel(0, 1, 0, n, 1, 0));
        refused(check, "paper", 3, (x, n) -> x.paper(n, 0));
    }

    private static void noSuchJudge(Check check) {
        refused(check, "learn", 4, (x, n) -> x.learn(n, 0));
        refused(check, "duel", 4, (x, n) -> x.duel(0, 1, n, 0, 1, 0));
        refused(check, "appeal", 4, (x, n) -> x.appeal(0, n));
    }

    private static void noSuchStyle(Check check) {
        refused(check, "style", 4, (x, n) -> Twins.style(n, 1, 1, 1).on(x));
        refused(check, "learn", 4, (x, n) -> x.learn(0, n));
        refused(check, "mark", 4, (x, n) -> x.mark(0, n));
    }

    private static void noSuchWriter(Check check) {
        refused(check, "duel, one", 8, (x, n) -> x.duel(n, 1, 0, 0, 1, 0));
        refused(check, "duel, other", 8, (x, n) -> x.duel(1, n, 0, 0, 1, 0));
        refused(check, "won", 8, (x, n) -> x.won(n));
    }

    private static void noSuchDuel(Check check) {
        refused(check, "hand", 3, 12, (x, n) -> x.hand(n, 0));
        refused(check, "look", 3, 12, (x, n) -> x.look(n, 0, false));
        refused(check, "appeal", 3, 12, (x, n) -> x.appeal(n, 3));
        refused(check, "prompt", 3, 12, (x, n) -> x.prompt(n, 0));
        refused(check, "marked", 3, 12, (x, n) -> x.marked(n, 0, true));
        refused(check, "of", 3, 12, (x, n) -> x.of(n, 0));
    }

    /** Midway duel 0 has one round, handed in; duel 1 three rounds, handed in up to one's of round 1. */
    private static void noSuchRound(Check check) {
        int[] rounds = {1, 3};
        int[] ofOne = {1, 2};
        for (int k = 0; k < 2; k++) {
            int duel = k;
            Twins.NumberedCall prompt = (x, n) -> x.prompt(duel, n);
            Twins.refusedBeyond(check, "prompt", Check.NO_SUCH, 0, rounds[k] - 1, Twins::midway, prompt);
            Twins.NumberedCall look = (x, n) -> x.look(duel, n, false);
            Twins.refusedBeyond(check, "look, one", Check.NO_SUCH, 0, ofOne[k] - 1, Twins::midway, look);
            Twins.NumberedCall marked = (x, n) -> x.marked(duel, n, false);
            Twins.refusedBeyond(check, "marked, one", Check.NO_SUCH, 0, ofOne[k] - 1, Twins::midway, marked);
            Twins.NumberedCall lookOther = (x, n) -> x.look(duel, n, true);
            Twins.refusedBeyond(check, "look, other", Check.NO_SUCH, 0, 0, Twins::midway, lookOther);
            Twins.NumberedCall markedOther = (x, n) -> x.marked(duel, n, true);
            Twins.refusedBeyond(check, "marked, other", Check.NO_SUCH, 0, 0, Twins::midway, markedOther);
        }
    }

    private static void outOfRange(Check check) {
        beyond(check, "x", 0, 99, (x, n) -> x.stroke(n, 1, 2, 3));
        beyond(check, "y", 0, 99, (x, n) -> x.stroke(1, n, 2, 3));
        beyond(check, "endX", 0, 99, (x, n) -> x.stroke(1, 2, n, 3));
        beyond(check, "endY", 0, 99, (x, n) -> x.stroke(1, 2, 3, n));
        beyond(check, "sheets", 1, 100, (x, n) -> x.buy(0, n));
        beyond(check, "rise", -10, 10, (x, n) -> x.rise(0, n));
        beyond(check, "nearness", 0, 100, (x, n) -> Twins.style(1, n, 7, 7).on(x));
        beyond(check, "slope", 0, 100, (x, n) -> Twins.style(1, 7, n, 7).on(x));
        beyond(check, "order", 0, 100, (x, n) -> Twins.style(1, 7, 7, n).on(x));
        beyond(check, "days", 1, 100, (x, n) -> x.pass(n));
        beyond(check, "rounds", 1, 5, (x, n) -> x.duel(0, 1, 0, 0, n, 0));
        beyond(check, "draw", 0, 999, (x, n) -> x.duel(0, 1, 0, 0, 1, n));
        beyond(check, "seal", 0, 999, (x, n) -> x.hand(1, n));
        beyond(check, "what of part", 0, 2, (x, n) -> x.part(0, 0, n));
        beyond(check, "what of of", 0, 5, (x, n) -> x.of(1, n));
        beyond(check, "what of paper", 0, 1, (x, n) -> x.paper(1, n));
    }

    private static void beyond(Check check, String what, int least, int most, Twins.NumberedCall call) {
        Twins.refusedBeyond(check, what + ", midway", Check.WRONG, least, most, Twins::midway, call);
        Twins.refusedBeyond(check, what + ", full", Check.WRONG, least, most, Twins::full, call);
    }

    private static void asTheMethodTells(Check check) {
        notNow(check, "a ninth stroke", Twins::full, x -> x.stroke(1, 2, 3, 4));
        notNow(check, "a seventh sign", Twins::full, x -> x.sign());
        notNow(check, "a sign of nothing", InkRing::new, x -> x.sign());
        notNow(check, "sheet 1001", Twins::full, x -> x.buy(0, 1));
        notNow(check, "learned again", Twins::midway, x -> x.learn(0, 1));
        notNow(check, "day 5001", Twins::full, x -> x.pass(1));
        notNow(check, "a thirteenth duel", Twins::full, x -> x.duel(0, 1, 0, 0, 1, 0));
        notNow(check, "a duel without signs", InkRing::new, x -> x.duel(0, 1, 0, 0, 1, 0));
        notNow(check, "a writing too many", Twins::midway, x -> x.hand(0, 0));
        notNow(check, "a writing without a sheet", Twins::midway, x -> x.hand(2, 0));
        notNow(check, "an appeal too early", Twins::midway, x -> x.appeal(1, 0));
        notNow(check, "an appeal to its judge", Twins::midway, x -> x.appeal(0, 0));
    }

    private static void notNow(Check check, String what, Twins.Making making, Twins.RingCall call) {
        Twins.refused(check, what, Check.NOT_NOW, making, call);
    }

    private static void firstOfStroke(Check check) {
        Twins.refused(check, "number, eight", Check.WRONG, Twins::full, x -> x.stroke(1, 2, 3, 100));
        Twins.refused(check, "same, eight", Check.WRONG, Twins::full, x -> x.stroke(1, 2, 1, 2));
        Twins.refused(check, "number and same, eight", Check.WRONG, Twins::full, x -> x.stroke(-1, 2, -1, 2));
    }

    private static void firstOfBuy(Check check) {
        Twins.refused(check, "paper, sheets", Check.NO_SUCH, Twins::midway, x -> x.buy(3, 0));
        Twins.refused(check, "paper, sheets, 1000", Check.NO_SUCH, Twins::full, x -> x.buy(-1, 101));
        Twins.refused(check, "sheets, 1000", Check.WRONG, Twins::full, x -> x.buy(0, 101));
        Twins.refused(check, "fewer sheets, 1000", Check.WRONG, Twins::full, x -> x.buy(0, 0));
        Twins.refused(check, "the most sheets, 1000", Check.WRONG, Twins::full, x -> x.buy(0, Integer.MAX_VALUE));
    }

    private static void firstOfRiseAndStyle(Check check) {
        Twins.refused(check, "paper, rise", Check.NO_SUCH, Twins::midway, x -> x.rise(3, 11));
        Twins.refused(check, "paper below, rise below", Check.NO_SUCH, Twins::midway, x -> x.rise(-1, -11));
        Twins.refused(check, "style, nearness", Check.NO_SUCH, Twins::midway, Twins.style(4, 101, 0, 0));
        Twins.refused(check, "style, slope", Check.NO_SUCH, Twins::midway, Twins.style(-1, 0, -1, 0));
        Twins.refused(check, "style, order", Check.NO_SUCH, Twins::midway, Twins.style(4, 0, 0, 101));
    }

    private static void firstOfLearnAndPass(Check check) {
        Twins.refused(check, "judge, known", Check.NO_SUCH, Twins::full, x -> x.learn(4, 0));
        Twins.refused(check, "style, known", Check.NO_SUCH, Twins::full, x -> x.learn(0, 4));
        Twins.refused(check, "days, 5000", Check.WRONG, Twins::full, x -> x.pass(101));
        Twins.refused(check, "no days, 5000", Check.WRONG, Twins::full, x -> x.pass(0));
        Twins.refused(check, "the most days, 5000", Check.WRONG, Twins::full, x -> x.pass(Integer.MAX_VALUE));
    }

    private static void firstOfDuel(Check check) {
        int[][] noSuch = {
            {8, 8, 0, 0, 1, 0}, {-1, -1, 0, 0, 1, 0}, {1, 1, 4, 0, 1, 0}, {1, 1, 0, 3, 1, 0},
            {8, 1, 0, 0, 6, 0}, {1, 8, 0, 0, 0, 0}, {1, 2, 4, 0, 1, 1000}, {1, 2, 0, -1, 1, -1},
            {8, 1, 0, 0, 1, 0}, {1, 8, 0, 0, 1, 0}, {1, 2, -1, 0, 1, 0}, {1, 2, 0, 3, 1, 0},
        };
        int[][] wrong = {
            {1, 1, 0, 0, 1, 0}, {1, 2, 0, 0, 0, 0}, {1, 2, 0, 0, 6, 0}, {1, 2, 0, 0, 1, -1}, {1, 2, 0, 0, 1, 1000},
        };
        Twins.Making[] noneAndAll = {InkRing::new, Twins::full};
        for (Twins.Making making : noneAndAll) {
            for (int[] a : noSuch) {
                Twins.refused(check, "no such", Check.NO_SUCH, making, x -> x.duel(a[0], a[1], a[2], a[3], a[4], a[5]));
            }
            for (int[] a : wrong) {
                Twins.refused(check, "wrong", Check.WRONG, making, x -> x.duel(a[0], a[1], a[2], a[3], a[4], a[5]));
            }
            Twins.refused(check, "right", Check.NOT_NOW, making, x -> x.duel(1, 2, 0, 0, 1, 0));
        }
    }

    private static void firstOfHand(Check check) {
        for (int bad : FAR_OFF) {
            Twins.refused(check, "duel, seal", Check.NO_SUCH, Twins::midway, x -> x.hand(3, bad));
            Twins.refused(check, "seal, all rounds", Check.WRONG, Twins::midway, x -> x.hand(0, bad));
            Twins.refused(check, "seal, no sheet", Check.WRONG, Twins::midway, x -> x.hand(2, bad));
        }
        Twins.refused(check, "duel, seal, empty draft", Check.NO_SUCH, InkRing::new, x -> x.hand(0, 1000));
        Twins.refused(check, "duel, empty draft", Check.NO_SUCH, InkRing::new, x -> x.hand(0, 0));
        Twins.refused(check, "seal, empty draft", Check.WRONG, ExceptionSentences::begun, x -> x.hand(0, 1000));
        Twins.refused(check, "seal below, empty draft", Check.WRONG, ExceptionSentences::begun, x -> x.hand(0, -1));
        Twins.refused(check, "empty draft", Check.NOT_NOW, ExceptionSentences::begun, x -> x.hand(0, 999));
    }

    /** A duel begun, an empty draft and no sheet. */
    private static InkRing begun() {
        InkRing x = undrafted();
        x.duel(0, 1, 0, 0, 1, 0);
        return x;
    }

    private static void firstOfAppeal(Check check) {
        Twins.refused(check, "judge, goes on", Check.NO_SUCH, Twins::midway, x -> x.appeal(1, 4));
        Twins.refused(check, "judge below, goes on", Check.NO_SUCH, Twins::midway, x -> x.appeal(1, -1));
        Twins.refused(check, "duel, its judge", Check.NO_SUCH, Twins::midway, x -> x.appeal(3, 0));
        Twins.refused(check, "duel, judge", Check.NO_SUCH, Twins::midway, x -> x.appeal(-1, 4));
        Twins.Making appealed = () -> {
            InkRing x = Twins.midway();
            x.appeal(0, 2);
            return x;
        };
        Twins.refused(check, "judge, appealed", Check.NO_SUCH, appealed, x -> x.appeal(0, 4));
        Twins.refused(check, "appealed", Check.NOT_NOW, appealed, x -> x.appeal(0, 3));
        Twins.refused(check, "appealed, its judge", Check.NOT_NOW, appealed, x -> x.appeal(0, 0));
    }

    private static void firstOfQuestions(Check check) {
        for (int bad : new int[] {-1, 6, Integer.MIN_VALUE, Integer.MAX_VALUE}) {
            Twins.refused(check, "part: sign, what", Check.NO_SUCH, Twins::midway, x -> x.part(3, 0, bad));
            Twins.refused(check, "part: stroke, what", Check.NO_SUCH, Twins::midway, x -> x.part(0, 1, bad));
            Twins.Making undrafted = ExceptionSentences::undrafted;
            Twins.refused(check, "part: empty draft, what", Check.NO_SUCH, undrafted, x -> x.part(0, 0, bad));
            Twins.refused(check, "of: duel, what", Check.NO_SUCH, Twins::midway, x -> x.of(3, bad));
            Twins.refused(check, "paper: paper, what", Check.NO_SUCH, Twins::midway, x -> x.paper(3, bad));
        }
    }

    /** Those that are refused for what was before them: no refusal makes the next call another one. */
    private static void changesNothing(Check check) {
        InkRing x = Twins.midway();
        for (int k = 0; k < 10; k++) {
            check.due("hand", Check.WRONG, () -> x.hand(1, 1000));
            check.due("hand, no sheet", Check.NOT_NOW, () -> x.hand(2, 0));
            check.due("look", Check.NO_SUCH, () -> x.look(1, 1, true));
            check.due("appeal", Check.NOT_NOW, () -> x.appeal(0, 0));
            check.due("learn", Check.NOT_NOW, () -> x.learn(0, 0));
            check.due("pass", Check.WRONG, () -> x.pass(101));
            check.due("buy", Check.WRONG, () -> x.buy(1, 101));
            check.due("duel", Check.WRONG, () -> x.duel(0, 1, 0, 0, 1, 1000));
            check.due("stroke", Check.WRONG, () -> x.stroke(1, 1, 1, 1));
            check.due("style", Check.WRONG, () -> Twins.style(0, 1, 1, 101).on(x));
            check.due("rise", Check.WRONG, () -> x.rise(0, 11));
        }
        check.same("what comes behind", Twins.transcript(Twins.midway()), Twins.transcript(x));
        InkRing y = Twins.full();
        for (int k = 0; k < 10; k++) {
            check.due("stroke", Check.NOT_NOW, () -> y.stroke(1, 2, 3, 4));
            check.due("sign", Check.NOT_NOW, () -> y.sign());
            check.due("buy", Check.NOT_NOW, () -> y.buy(0, 1));
            check.due("pass", Check.NOT_NOW, () -> y.pass(1));
            check.due("duel", Check.NOT_NOW, () -> y.duel(0, 1, 0, 0, 1, 0));
        }
        check.same("what comes behind on a full one", Twins.transcript(Twins.full()), Twins.transcript(y));
    }

    private static void none(Check check) {
        check.same("NONE", -1, InkRing.NONE);
        InkRing x = Arena.plain();
        x.duel(0, 1, 0, 0, 1, 0);
        check.due("no winner is NONE", InkRing.NONE, () -> x.of(0, 3));
        check.due("no second judge is NONE", InkRing.NONE, () -> x.of(0, 5));
        Arena.handOff(x, 0, 0, 0);
        Arena.handOff(x, 0, 0, 0);
        check.due("nobody is NONE", InkRing.NONE, () -> x.of(0, 3));
        check.due("nobody is NONE by an appeal", InkRing.NONE, () -> x.appeal(0, 1));
    }

    private static void questionsChangeNothing(Check check) {
        for (Twins.Making making : new Twins.Making[] {InkRing::new, Twins::midway, Twins::full}) {
            InkRing x = making.make();
            Twins.questions(x);
            check.same("what comes behind all questions", Twins.transcript(making.make()), Twins.transcript(x));
        }
    }
}
