/** Promises 5 to 9: buy, rise, style, learn, pass. */
public final class PaperAndJudgesTest {
    private PaperAndJudgesTest() {
    }

    public static void main(String[] args) {
        Check check = new Check("PaperAndJudgesTest");
        promise5Counts(check);
        promise5AtMost1000(check);
        promise5Wrong(check);
        promise6Rise(check);
        promise6Wrong(check);
        promise7Weights(check);
        promise7Wrong(check);
        promise8Learn(check);
        promise8Wrong(check);
        promise9Days(check);
        promise9LastDay(check);
        promise9DampIsHeld(check);
        check.end();
    }

    private static void promise5Counts(Check check) {
        InkRing x = new InkRing();
        check.due("one sheet", 1, () -> x.buy(0, 1));
        check.due("a hundred", 101, () -> x.buy(0, 100));
        check.due("of another paper", 7, () -> x.buy(2, 7));
        check.due("sheets of 0", 101, () -> x.paper(0, 0));
        check.due("sheets of 1", 0, () -> x.paper(1, 0));
        check.due("sheets of 2", 7, () -> x.paper(2, 0));
    }

    private static void promise5AtMost1000(Check check) {
        InkRing x = Arena.plain();
        for (int k = 0; k < 8; k++) {
            x.buy(0, 100);
        }
        check.due("up to 950", 950, () -> x.buy(0, 50));
        check.due("51 more", Check.NOT_NOW, () -> x.buy(0, 51));
        check.due("still 950", 950, () -> x.paper(0, 0));
        check.due("50 more", 1000, () -> x.buy(0, 50));
        check.due("one more", Check.NOT_NOW, () -> x.buy(0, 1));
        check.due("out of range at 1000", Check.WRONG, () -> x.buy(0, 101));
        check.due("each paper has its own", 100, () -> x.buy(1, 100));
        x.duel(0, 1, 0, 0, 1, 0);
        Arena.handOff(x, 0, 0, 0);
        check.due("one more when one is taken", 1000, () -> x.buy(0, 1));
    }

    private static void promise5Wrong(Check check) {
        InkRing x = new InkRing();
        check.due("paper 3", Check.NO_SUCH, () -> x.buy(3, 1));
        check.due("paper -1", Check.NO_SUCH, () -> x.buy(-1, 1));
        check.due("paper and sheets", Check.NO_SUCH, () -> x.buy(3, 0));
        check.due("no sheets", Check.WRONG, () -> x.buy(0, 0));
        check.due("fewer", Check.WRONG, () -> x.buy(0, -1));
        check.due("101 sheets", Check.WRONG, () -> x.buy(0, 101));
        check.due("all sheets", Check.WRONG, () -> x.buy(0, Integer.MAX_VALUE));
        check.due("least sheets", Check.WRONG, () -> x.buy(0, Integer.MIN_VALUE));
        check.due("none was bought", 0, () -> x.paper(0, 0));
    }

    private static void promise6Rise(Check check) {
        InkRing x = new InkRing();
        check.due("rise 10", 0, () -> x.rise(0, 10));
        check.due("rise 3", 0, () -> x.rise(2, 3));
        check.due("no damp on that day", 0, () -> x.paper(0, 1));
        x.pass(2);
        check.due("damp of 0", 20, () -> x.paper(0, 1));
        check.due("damp of 1", 0, () -> x.paper(1, 1));
        check.due("damp of 2", 6, () -> x.paper(2, 1));
        check.due("rise -10", 20, () -> x.rise(0, -10));
        x.pass(1);
        check.due("less damp", 10, () -> x.paper(0, 1));
        check.due("rise 0", 10, () -> x.rise(0, 0));
        x.pass(5);
        check.due("as damp", 10, () -> x.paper(0, 1));
        check.due("the other went on", 24, () -> x.paper(2, 1));
    }

    private static void promise6Wrong(Check check) {
        InkRing x = new InkRing();
        x.rise(0, 4);
        check.due("paper 3", Check.NO_SUCH, () -> x.rise(3, 0));
        check.due("paper -1", Check.NO_SUCH, () -> x.rise(-1, 0));
        check.due("paper and rise", Check.NO_SUCH, () -> x.rise(3, 11));
        check.due("rise 11", Check.WRONG, () -> x.rise(0, 11));
        check.due("rise -11", Check.WRONG, () -> x.rise(0, -11));
        check.due("least rise", Check.WRONG, () -> x.rise(0, Integer.MIN_VALUE));
        x.pass(1);
        check.due("the rise stays", 4, () -> x.paper(0, 1));
    }

    private static void promise7Weights(Check check) {
        InkRing x = new InkRing();
        Arena.sign(x, 0, 0, 10, 0);
        Arena.draft(x, 0, 10, 10, 10);
        check.due("style is told", Check.NOTHING, Check.act(() -> x.style(0, 100, 0, 0)));
        check.due("by nearness", 8.0f, () -> x.mark(0, 0));
        x.style(1, 0, 100, 0);
        check.due("by slope", 10.0f, () -> x.mark(0, 1));
        x.style(2, 0, 0, 50);
        check.due("by order", 5.0f, () -> x.mark(0, 2));
        x.style(3, 100, 100, 100);
        check.due("by all", 28.0f, () -> x.mark(0, 3));
        check.due("the first style stays", 8.0f, () -> x.mark(0, 0));
        x.style(3, 0, 0, 0);
        check.due("told again", 0.0f, () -> x.mark(0, 3));
    }

    private static void promise7Wrong(Check check) {
        InkRing x = new InkRing();
        Arena.sign(x, 0, 0, 10, 0);
        Arena.draft(x, 0, 10, 10, 10);
        x.style(0, 100, 0, 0);
        check.due("style 4", Check.NO_SUCH, Check.act(() -> x.style(4, 0, 0, 0)));
        check.due("style -1", Check.NO_SUCH, Check.act(() -> x.style(-1, 0, 0, 0)));
        check.due("style and weight", Check.NO_SUCH, Check.act(() -> x.style(4, 101, 0, 0)));
        for (int bad : new int[] {-1, 101, Integer.MIN_VALUE, Integer.MAX_VALUE}) {
            check.due("nearness " + bad, Check.WRONG, Check.act(() -> x.style(0, bad, 1, 1)));
            check.due("slope " + bad, Check.WRONG, Check.act(() -> x.style(0, 1, bad, 1)));
            check.due("order " + bad, Check.WRONG, Check.act(() -> x.style(0, 1, 1, bad)));
        }
        check.due("the weights stay", 8.0f, () -> x.mark(0, 0));
    }

    private static void promise8Learn(Check check) {
        InkRing x = new InkRing();
        check.due("a first style", 1, () -> x.learn(0, 3));
        check.due("a second one", 2, () -> x.learn(0, 0));
        check.due("of another judge", 1, () -> x.learn(3, 3));
        x.pass(1);
        check.due("a third one later", 3, () -> x.learn(0, 1));
        check.due("a fourth one", 4, () -> x.learn(0, 2));
        check.due("the first one again", Check.NOT_NOW, () -> x.learn(0, 3));
        check.due("the other judge goes on", 2, () -> x.learn(3, 0));
    }

    private static void promise8Wrong(Check check) {
        InkRing x = new InkRing();
        check.due("judge 4", Check.NO_SUCH, () -> x.learn(4, 0));
        check.due("judge -1", Check.NO_SUCH, () -> x.learn(-1, 0));
        check.due("style 4", Check.NO_SUCH, () -> x.learn(0, 4));
        check.due("style -1", Check.NO_SUCH, () -> x.learn(0, -1));
        check.due("least judge", Check.NO_SUCH, () -> x.learn(Integer.MIN_VALUE, 0));
        x.learn(0, 0);
        check.due("on the same day", Check.NOT_NOW, () -> x.learn(0, 0));
        check.due("an unknown style of who knows one", Check.NO_SUCH, () -> x.learn(0, 4));
        check.due("only one was learned", 2, () -> x.learn(0, 1));
    }

    private static void promise9Days(Check check) {
        InkRing x = new InkRing();
        check.due("a day", 1, () -> x.pass(1));
        check.due("a hundred", 101, () -> x.pass(100));
        for (int bad : new int[] {0, -1, 101, Integer.MIN_VALUE, Integer.MAX_VALUE}) {
            check.due("days " + bad, Check.WRONG, () -> x.pass(bad));
        }
        check.due("the day stays", 102, () -> x.pass(1));
    }

    private static void promise9LastDay(Check check) {
        InkRing x = new InkRing();
        for (int k = 0; k < 49; k++) {
            x.pass(100);
        }
        x.pass(99);
        x.rise(0, 1);
        check.due("above the last day", Check.NOT_NOW, () -> x.pass(2));
        check.due("far above it", Check.NOT_NOW, () -> x.pass(100));
        check.due("out of range before the last day", Check.WRONG, () -> x.pass(101));
        check.due("no damp by these", 0, () -> x.paper(0, 1));
        check.due("the last day", 5000, () -> x.pass(1));
        check.due("damp of the last day", 1, () -> x.paper(0, 1));
        check.due("behind it", Check.NOT_NOW, () -> x.pass(1));
        check.due("out of range on the last day", Check.WRONG, () -> x.pass(0));
    }

    private static void promise9DampIsHeld(Check check) {
        InkRing x = new InkRing();
        x.rise(0, 10);
        x.rise(1, -10);
        x.rise(2, 7);
        x.pass(14);
        check.due("100 at most", 100, () -> x.paper(0, 1));
        check.due("0 at least", 0, () -> x.paper(1, 1));
        check.due("98", 98, () -> x.paper(2, 1));
        x.pass(1);
        check.due("not 105", 100, () -> x.paper(2, 1));
        x.rise(0, -10);
        x.rise(1, 10);
        x.rise(2, -3);
        x.pass(1);
        check.due("down from 100", 90, () -> x.paper(0, 1));
        check.due("up from 0", 10, () -> x.paper(1, 1));
        check.due("97", 97, () -> x.paper(2, 1));
        x.pass(10);
        check.due("0 again", 0, () -> x.paper(0, 1));
        check.due("100 then", 100, () -> x.paper(1, 1));
    }
}
