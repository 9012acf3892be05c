/** Promises 5 to 9: buy, rise, style, learn, pass. */
final class PaperSentences {
    private PaperSentences() {
    }

    static void tell(Sentences s) {
        tellBuy(s);
        tellRise(s);
        tellStyle(s);
        tellLearn(s);
        tellPass(s);
    }

    private static void tellBuy(Sentences s) {
        s.in("Promise 5: buy");
        s.holds("Buys sheets", PaperSentences::buys);
        s.holds("- `paper`: 0 to 2", PaperSentences::boughtPapers);
        s.holds("- `sheets`: 1 to 100", PaperSentences::boughtSheets);
        s.holds("Returns how many there are then", PaperSentences::howManyThereAre);
        s.holds("Throws `IndexOutOfBoundsException` if there is no such paper", PaperSentences::buyNoSuchPaper);
        s.holds("Throws `IllegalArgumentException` if sheets is out of range", PaperSentences::buyOutOfRange);
        s.holds("Throws `IllegalStateException` if there would be more than 1000", PaperSentences::moreThan1000);
    }

    private static void tellRise(Sentences s) {
        s.in("Promise 6: rise");
        s.holds("Tells how the damp of a paper rises", PaperSentences::tellsTheRise);
        s.holds("- `paper`: 0 to 2", PaperSentences::risingPapers);
        s.holds("- `rise`: -10 to 10", PaperSentences::rises);
        s.holds("Returns its damp now", PaperSentences::dampNow);
        s.holds("Throws `IndexOutOfBoundsException` if there is no such paper", PaperSentences::riseNoSuchPaper);
        s.holds("Throws `IllegalArgumentException` if rise is out of range", PaperSentences::riseOutOfRange);
    }

    private static void tellStyle(Sentences s) {
        s.in("Promise 7: style");
        s.holds("Tells the weights of a style", PaperSentences::tellsWeights);
        s.holds("- `style`: 0 to 3", PaperSentences::stylesTold);
        s.holds("- `nearness`: 0 to 100", check -> weight(check, 0));
        s.holds("- `slope`: 0 to 100", check -> weight(check, 1));
        s.holds("- `order`: 0 to 100", check -> weight(check, 2));
        s.holds("Throws `IndexOutOfBoundsException` if there is no such style", PaperSentences::noSuchStyle);
        s.holds("if nearness, slope or order is out of range", PaperSentences::weightsOutOfRange);
    }

    private static void tellLearn(Sentences s) {
        s.in("Promise 8: learn");
        s.holds("A judge learns a style today", PaperSentences::learnsToday);
        s.holds("- `judge`: 0 to 3", PaperSentences::judges);
        s.holds("- `style`: 0 to 3", PaperSentences::stylesLearned);
        s.holds("Returns how many that judge knows then", PaperSentences::howManyItKnows);
        s.holds("Throws `IndexOutOfBoundsException` if there is no such judge or style", PaperSentences::noSuchToLearn);
        s.holds("Throws `IllegalStateException` if the judge knows it", PaperSentences::knowsIt);
    }

    private static void tellPass(Sentences s) {
        s.in("Promise 9: pass");
        s.holds("Lets days pass", PaperSentences::letsDaysPass);
        s.holds("- `days`: 1 to 100", PaperSentences::days);
        s.holds("Returns the day then", PaperSentences::theDayThen);
        s.holds("Throws `IllegalArgumentException` if days is out of range", PaperSentences::daysOutOfRange);
        s.holds("Throws `IllegalStateException` if it would be above 5000", PaperSentences::above5000);
    }

    // ---- buy

    private static void buys(Check check) {
        InkRing x = new InkRing();
        x.buy(0, 1);
        x.buy(1, 100);
        x.buy(0, 2);
        check.due("1 and 2", 3, () -> x.paper(0, 0));
        check.due("100", 100, () -> x.paper(1, 0));
        check.due("none", 0, () -> x.paper(2, 0));
        check.due("no damp by that", 0, () -> x.paper(0, 1));
    }

    private static void boughtPapers(Check check) {
        for (int k = 0; k < 3; k++) {
            InkRing x = new InkRing();
            int paper = k;
            check.due("paper " + k, 4, () -> x.buy(paper, 4));
            check.due("its sheets", 4, () -> x.paper(paper, 0));
            check.due("those of the next", 0, () -> x.paper((paper + 1) % 3, 0));
            check.due("those of the third", 0, () -> x.paper((paper + 2) % 3, 0));
        }
        Twins.refusedBeyond(check, "paper", Check.NO_SUCH, 0, 2, InkRing::new, (x, n) -> x.buy(n, 4));
    }

    private static void boughtSheets(Check check) {
        check.due("1 sheet", 1, () -> new InkRing().buy(0, 1));
        check.due("2 sheets", 2, () -> new InkRing().buy(0, 2));
        check.due("99 sheets", 99, () -> new InkRing().buy(0, 99));
        check.due("100 sheets", 100, () -> new InkRing().buy(0, 100));
        Twins.refusedBeyond(check, "sheets", Check.WRONG, 1, 100, InkRing::new, (x, n) -> x.buy(0, n));
    }

    private static void howManyThereAre(Check check) {
        InkRing x = Arena.plain();
        check.due("100 and 1", 101, () -> x.buy(0, 1));
        x.duel(0, 1, 0, 0, 1, 0);
        Arena.handOff(x, 0, 0, 0);
        Arena.handOff(x, 0, 0, 0);
        check.due("two were taken", 100, () -> x.buy(0, 1));
        check.due("another paper's", 1, () -> x.buy(2, 1));
    }

    private static void buyNoSuchPaper(Check check) {
        Twins.refusedBeyond(check, "paper, midway", Check.NO_SUCH, 0, 2, Twins::midway, (x, n) -> x.buy(n, 1));
        Twins.refusedBeyond(check, "paper, no sheets", Check.NO_SUCH, 0, 2, Twins::midway, (x, n) -> x.buy(n, 0));
        Twins.refusedBeyond(check, "paper, 101 sheets", Check.NO_SUCH, 0, 2, Twins::full, (x, n) -> x.buy(n, 101));
    }

    private static void buyOutOfRange(Check check) {
        for (int k = 0; k < 3; k++) {
            int paper = k;
            Twins.NumberedCall call = (x, n) -> x.buy(paper, n);
            Twins.refusedBeyond(check, "sheets of " + k + ", midway", Check.WRONG, 1, 100, Twins::midway, call);
            Twins.refusedBeyond(check, "sheets of " + k + ", full", Check.WRONG, 1, 100, Twins::full, call);
        }
    }

    private static InkRing sheets(int count) {
        InkRing x = new InkRing();
        for (int k = 0; k < count / 100; k++) {
            x.buy(1, 100);
        }
        if (count % 100 > 0) {
            x.buy(1, count % 100);
        }
        return x;
    }

    private static void moreThan1000(Check check) {
        check.due("998 and 1", 999, () -> sheets(998).buy(1, 1));
        check.due("999 and 1", 1000, () -> sheets(999).buy(1, 1));
        check.due("900 and 100", 1000, () -> sheets(900).buy(1, 100));
        check.due("950 and 50", 1000, () -> sheets(950).buy(1, 50));
        Twins.refused(check, "1000 and 1", Check.NOT_NOW, () -> sheets(1000), x -> x.buy(1, 1));
        Twins.refused(check, "1000 and 100", Check.NOT_NOW, () -> sheets(1000), x -> x.buy(1, 100));
        Twins.refused(check, "999 and 2", Check.NOT_NOW, () -> sheets(999), x -> x.buy(1, 2));
        Twins.refused(check, "901 and 100", Check.NOT_NOW, () -> sheets(901), x -> x.buy(1, 100));
        Twins.refused(check, "950 and 51", Check.NOT_NOW, () -> sheets(950), x -> x.buy(1, 51));
        check.due("1000 of one, 1 of another", 1, () -> sheets(1000).buy(0, 1));
        InkRing x = sheets(1000);
        Arena.sign(x, 0, 0, 50, 0);
        x.duel(0, 1, 0, 1, 1, 0);
        check.due("one of 1000 is taken", 1, () -> Arena.handOff(x, 0, 0, 0));
        check.due("999 are left", 999, () -> x.paper(1, 0));
        check.due("two more", Check.NOT_NOW, () -> x.buy(1, 2));
        check.due("one more", 1000, () -> x.buy(1, 1));
    }

    // ---- rise

    private static void tellsTheRise(Check check) {
        InkRing x = new InkRing();
        x.rise(0, 4);
        x.rise(0, 6);
        x.pass(1);
        check.due("the one told last", 6, () -> x.paper(0, 1));
        x.pass(1);
        check.due("on each day", 12, () -> x.paper(0, 1));
        x.rise(0, 0);
        x.pass(1);
        check.due("no more", 12, () -> x.paper(0, 1));
    }

    private static void risingPapers(Check check) {
        for (int k = 0; k < 3; k++) {
            InkRing x = new InkRing();
            int paper = k;
            check.due("paper " + k, 0, () -> x.rise(paper, 9));
            x.pass(1);
            check.due("its damp", 9, () -> x.paper(paper, 1));
            check.due("that of the next", 0, () -> x.paper((paper + 1) % 3, 1));
            check.due("that of the third", 0, () -> x.paper((paper + 2) % 3, 1));
        }
        Twins.refusedBeyond(check, "paper", Check.NO_SUCH, 0, 2, InkRing::new, (x, n) -> x.rise(n, 9));
    }

    private static InkRing damp(int damp) {
        InkRing x = new InkRing();
        x.rise(2, damp / 10);
        x.pass(10);
        x.rise(2, 0);
        return x;
    }

    private static void rises(Check check) {
        for (int k = -10; k <= 10; k++) {
            InkRing x = damp(50);
            int rise = k;
            check.due("rise " + k, 50, () -> x.rise(2, rise));
            x.pass(1);
            check.due("damp by " + k, 50 + rise, () -> x.paper(2, 1));
        }
        Twins.refusedBeyond(check, "rise", Check.WRONG, -10, 10, () -> damp(50), (x, n) -> x.rise(2, n));
    }

    private static void dampNow(Check check) {
        InkRing x = new InkRing();
        check.due("0", 0, () -> x.rise(1, 10));
        check.due("not as it will be", 0, () -> x.rise(1, 10));
        x.pass(1);
        check.due("10", 10, () -> x.rise(1, 10));
        x.pass(8);
        check.due("90", 90, () -> x.rise(1, 9));
        x.pass(1);
        check.due("99", 99, () -> x.rise(1, 9));
        x.pass(1);
        check.due("100", 100, () -> x.rise(1, -10));
        x.pass(10);
        check.due("0 again", 0, () -> x.rise(1, -10));
        x.pass(1);
        check.due("0 still", 0, () -> x.rise(1, 1));
    }

    private static void riseNoSuchPaper(Check check) {
        Twins.refusedBeyond(check, "paper, midway", Check.NO_SUCH, 0, 2, Twins::midway, (x, n) -> x.rise(n, 10));
        Twins.refusedBeyond(check, "paper, rise 11", Check.NO_SUCH, 0, 2, Twins::midway, (x, n) -> x.rise(n, 11));
        Twins.refusedBeyond(check, "paper, full", Check.NO_SUCH, 0, 2, Twins::full, (x, n) -> x.rise(n, -10));
    }

    private static void riseOutOfRange(Check check) {
        for (int k = 0; k < 3; k++) {
            int paper = k;
            Twins.NumberedCall call = (x, n) -> x.rise(paper, n);
            Twins.refusedBeyond(check, "rise of " + k, Check.WRONG, -10, 10, Twins::midway, call);
        }
        InkRing x = new InkRing();
        x.rise(0, 5);
        check.due("refused", Check.WRONG, () -> x.rise(0, 11));
        x.pass(1);
        check.due("the rise as before", 5, () -> x.paper(0, 1));
    }

    // ---- style

    /** One sign, a draft of which nearness is 8.0f, slope 10.0f and order 10.0f. */
    private static InkRing weighable() {
        InkRing x = new InkRing();
        Arena.sign(x, 0, 0, 50, 0);
        Arena.draft(x, 0, 10, 50, 10);
        return x;
    }

    private static void tellsWeights(Check check) {
        InkRing x = weighable();
        x.style(0, 100, 0, 0);
        check.due("nearness", 8.0f, () -> x.mark(0, 0));
        x.style(0, 0, 50, 0);
        check.due("slope", 5.0f, () -> x.mark(0, 0));
        x.style(0, 0, 0, 20);
        check.due("order", 2.0f, () -> x.mark(0, 0));
        x.style(0, 100, 50, 20);
        check.due("all of them", 15.0f, () -> x.mark(0, 0));
        x.style(0, 0, 0, 0);
        check.due("none", 0.0f, () -> x.mark(0, 0));
    }

    private static void stylesTold(Check check) {
        for (int k = 0; k < 4; k++) {
            InkRing x = weighable();
            int style = k;
            check.due("style " + k, Check.NOTHING, () -> Twins.style(style, 0, 100, 0).on(x));
            for (int asked = 0; asked < 4; asked++) {
                int other = asked;
                check.due(k + " told, mark by " + asked, other == style ? 10.0f : 0.0f, () -> x.mark(0, other));
            }
        }
        Twins.NumberedCall call = (x, n) -> Twins.style(n, 0, 100, 0).on(x);
        Twins.refusedBeyond(check, "style", Check.NO_SUCH, 0, 3, PaperSentences::weighable, call);
    }

    private static Object weigh(InkRing x, int which, int weight) {
        int[] weights = {0, 0, 0};
        weights[which] = weight;
        return Twins.style(1, weights[0], weights[1], weights[2]).on(x);
    }

    private static void weight(Check check, int which) {
        float part = which == 0 ? 8.0f : 10.0f;
        for (int weight : new int[] {0, 1, 99, 100}) {
            InkRing x = weighable();
            check.due("weight " + weight, Check.NOTHING, () -> weigh(x, which, weight));
            check.due("mark by " + weight, (float) weight * part / 100.0f, () -> x.mark(0, 1));
        }
        Twins.NumberedCall call = (x, n) -> weigh(x, which, n);
        Twins.refusedBeyond(check, "weight", Check.WRONG, 0, 100, Twins::midway, call);
    }

    private static void noSuchStyle(Check check) {
        Twins.NumberedCall call = (x, n) -> Twins.style(n, 100, 100, 100).on(x);
        Twins.refusedBeyond(check, "style, midway", Check.NO_SUCH, 0, 3, Twins::midway, call);
        Twins.NumberedCall wrongToo = (x, n) -> Twins.style(n, 101, -1, 101).on(x);
        Twins.refusedBeyond(check, "style and weights", Check.NO_SUCH, 0, 3, Twins::midway, wrongToo);
    }

    private static void weightsOutOfRange(Check check) {
        int[][] wrong = {
            {101, 5, 5}, {5, 101, 5}, {5, 5, 101}, {-1, 5, 5}, {5, -1, 5}, {5, 5, -1}, {-1, -1, -1}, {101, 101, 101},
            {Integer.MIN_VALUE, 5, 5}, {5, Integer.MAX_VALUE, 5}, {5, 5, Integer.MIN_VALUE}, {-1, 101, 0},
        };
        for (int[] a : wrong) {
            for (int style = 0; style < 4; style++) {
                Twins.RingCall call = Twins.style(style, a[0], a[1], a[2]);
                Twins.refused(check, "weights of " + style, Check.WRONG, Twins::midway, call);
            }
        }
    }

    // ---- learn

    private static void learnsToday(Check check) {
        InkRing x = Arena.plain();
        x.style(1, 0, 0, 100);
        x.style(2, 0, 0, 50);
        x.duel(0, 1, 2, 0, 1, 0);
        x.pass(1);
        x.duel(0, 1, 2, 0, 1, 0);
        check.due("a style", 1, () -> x.learn(2, 2));
        x.pass(1);
        x.duel(0, 1, 2, 0, 1, 0);
        check.due("a better one", 2, () -> x.learn(2, 1));
        for (int k = 0; k < 3; k++) {
            Arena.handOff(x, k, 0, 0);
        }
        check.due("the day before", 0.0f, () -> x.marked(0, 0, false));
        check.due("today", 5.0f, () -> x.marked(1, 0, false));
        check.due("the next day, with a better one", 10.0f, () -> x.marked(2, 0, false));
    }

    private static void judges(Check check) {
        for (int k = 0; k < 4; k++) {
            InkRing x = new InkRing();
            int judge = k;
            check.due("judge " + k, 1, () -> x.learn(judge, 2));
            for (int other = 0; other < 4; other++) {
                int asked = other;
                check.due(k + " learned, then " + other, asked == judge ? 2 : 1, () -> x.learn(asked, 3));
            }
        }
        Twins.refusedBeyond(check, "judge", Check.NO_SUCH, 0, 3, InkRing::new, (x, n) -> x.learn(n, 0));
    }

    private static void stylesLearned(Check check) {
        for (int k = 0; k < 4; k++) {
            InkRing x = new InkRing();
            int style = k;
            check.due("style " + k, 1, () -> x.learn(0, style));
            check.due("style " + k + " again", Check.NOT_NOW, () -> x.learn(0, style));
            check.due("the next style", 2, () -> x.learn(0, (style + 1) % 4));
        }
        Twins.refusedBeyond(check, "style", Check.NO_SUCH, 0, 3, InkRing::new, (x, n) -> x.learn(0, n));
    }

    private static void howManyItKnows(Check check) {
        InkRing x = new InkRing();
        int[] order = {3, 0, 2, 1};
        for (int k = 0; k < 4; k++) {
            int number = k;
            check.due("style of judge 3", number + 1, () -> x.learn(3, order[number]));
            check.due("style of judge 0, on the same day", number + 1, () -> x.learn(0, number));
            x.pass(1);
        }
        check.due("a judge who knows none", 1, () -> x.learn(1, 0));
    }

    private static void noSuchToLearn(Check check) {
        for (int k = 0; k < 4; k++) {
            int known = k;
            Twins.refusedBeyond(check, "judge, style " + k, Check.NO_SUCH, 0, 3, Twins::midway, (x, n) -> x.learn(n, known));
            Twins.refusedBeyond(check, "style, judge " + k, Check.NO_SUCH, 0, 3, Twins::midway, (x, n) -> x.learn(known, n));
        }
        Twins.refusedBeyond(check, "both", Check.NO_SUCH, 0, 3, Twins::full, (x, n) -> x.learn(n, n));
    }

    private static void knowsIt(Check check) {
        Twins.refused(check, "learned on an earlier day", Check.NOT_NOW, Twins::midway, x -> x.learn(0, 0));
        Twins.refused(check, "learned today", Check.NOT_NOW, Twins::midway, x -> x.learn(0, 1));
        Twins.refused(check, "learned on the last day", Check.NOT_NOW, Twins::full, x -> x.learn(0, 0));
        check.due("a style that it doesn't know", 3, () -> Twins.midway().learn(0, 2));
        check.due("a judge who doesn't know it", 2, () -> Twins.midway().learn(1, 0));
        InkRing x = new InkRing();
        for (int k = 0; k < 4; k++) {
            x.learn(1, k);
        }
        for (int k = 0; k < 4; k++) {
            int style = k;
            check.due("of all four, " + k, Check.NOT_NOW, () -> x.learn(1, style));
        }
    }

    // ---- pass

    private static void letsDaysPass(Check check) {
        InkRing x = Arena.plain();
        x.rise(1, 2);
        x.pass(3);
        x.duel(0, 1, 0, 0, 1, 0);
        check.due("the day of a duel", 3, () -> x.of(0, 4));
        check.due("the damp of three days", 6, () -> x.paper(1, 1));
        check.due("no sheets by that", 100, () -> x.paper(0, 0));
    }

    private static void days(Check check) {
        for (int k : new int[] {1, 2, 99, 100}) {
            InkRing x = new InkRing();
            x.rise(0, 1);
            check.due(k + " days", k, () -> x.pass(k));
            check.due("damp of " + k + " days", k, () -> x.paper(0, 1));
        }
        Twins.refusedBeyond(check, "days", Check.WRONG, 1, 100, InkRing::new, (x, n) -> x.pass(n));
    }

    private static void theDayThen(Check check) {
        InkRing x = new InkRing();
        check.due("day 1", 1, () -> x.pass(1));
        check.due("day 101", 101, () -> x.pass(100));
        check.due("day 102", 102, () -> x.pass(1));
        check.due("day 152", 152, () -> x.pass(50));
    }

    private static InkRing onDay(int day) {
        InkRing x = new InkRing();
        for (int k = 0; k < day / 100; k++) {
            x.pass(100);
        }
        if (day % 100 > 0) {
            x.pass(day % 100);
        }
        x.rise(0, 1);
        return x;
    }

    private static void daysOutOfRange(Check check) {
        Twins.refusedBeyond(check, "days, midway", Check.WRONG, 1, 100, Twins::midway, (x, n) -> x.pass(n));
        Twins.refusedBeyond(check, "days, 4999", Check.WRONG, 1, 100, () -> onDay(4999), (x, n) -> x.pass(n));
        Twins.refusedBeyond(check, "days, 5000", Check.WRONG, 1, 100, () -> onDay(5000), (x, n) -> x.pass(n));
    }

    private static void above5000(Check check) {
        check.due("4998 and 1", 4999, () -> onDay(4998).pass(1));
        check.due("4999 and 1", 5000, () -> onDay(4999).pass(1));
        check.due("4900 and 100", 5000, () -> onDay(4900).pass(100));
        check.due("4950 and 50", 5000, () -> onDay(4950).pass(50));
        Twins.refused(check, "5000 and 1", Check.NOT_NOW, () -> onDay(5000), x -> x.pass(1));
        Twins.refused(check, "5000 and 100", Check.NOT_NOW, () -> onDay(5000), x -> x.pass(100));
        Twins.refused(check, "4999 and 2", Check.NOT_NOW, () -> onDay(4999), x -> x.pass(2));
        Twins.refused(check, "4901 and 100", Check.NOT_NOW, () -> onDay(4901), x -> x.pass(100));
        Twins.refused(check, "4950 and 51", Check.NOT_NOW, () -> onDay(4950), x -> x.pass(51));
        InkRing x = onDay(4999);
        check.due("refused", Check.NOT_NOW, () -> x.pass(2));
        check.due("no damp by that", 0, () -> x.paper(0, 1));
        check.due("the last day", 5000, () -> x.pass(1));
        check.due("damp of the last day", 1, () -> x.paper(0, 1));
        check.due("the last day still learns", 1, () -> x.learn(0, 0));
    }
}
