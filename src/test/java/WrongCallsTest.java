import java.util.ArrayList;
import java.util.List;

/**
 * A call that throws changes nothing: of two arenas alike, one takes the wrong call, and all that can
 * be asked or done behind it must answer alike. The same with questions that are answered.
 */
public final class WrongCallsTest {
    private interface RingCall {
        Object on(InkRing ring);
    }

    private interface Making {
        InkRing make();
    }

    private static final class Wrong {
        final String text;
        final String want;
        final RingCall call;

        Wrong(String text, String want, RingCall call) {
            this.text = text;
            this.want = want;
            this.call = call;
        }
    }

    private final Check check = new Check("WrongCallsTest");

    private WrongCallsTest() {
    }

    public static void main(String[] args) {
        WrongCallsTest test = new WrongCallsTest();
        test.onNew();
        test.onMidway();
        test.onFull();
        test.questions();
        test.check.end();
    }

    private static InkRing midway() {
        InkRing x = new InkRing();
        Arena.sign(x, 0, 0, 50, 0);
        Arena.sign(x, 0, 0, 50, 50, 10, 90, 10, 20);
        Arena.sign(x, 99, 0, 0, 99, 1, 2, 3, 4, 50, 50, 60, 70);
        x.style(0, 100, 20, 0);
        x.style(1, 5, 60, 70);
        x.style(3, 10, 20, 30);
        x.learn(0, 0);
        x.learn(1, 1);
        x.rise(0, 3);
        x.rise(1, -2);
        x.buy(0, 30);
        x.duel(0, 1, 0, 0, 1, 7);
        x.pass(2);
        x.learn(0, 1);
        x.duel(2, 1, 1, 0, 3, 8);
        x.duel(1, 0, 1, 1, 2, 5);
        Arena.handOff(x, 0, Arena.forged(0, 1), 3);
        Arena.handOff(x, 0, Arena.seal(1, 2), 60);
        Arena.handOff(x, 1, Arena.seal(2, 3), 5);
        Arena.handOff(x, 1, Arena.forged(1, 4), 1);
        Arena.handOff(x, 1, Arena.forged(2, 5), 8);
        Arena.draft(x, 0, 0, 50, 2, 10, 80, 11, 20);
        return x;
    }

    private static InkRing full() {
        InkRing x = new InkRing();
        for (int k = 0; k < 6; k++) {
            Arena.sign(x, k, 0, 50, k);
        }
        for (int k = 0; k < 12; k++) {
            x.duel(k % 8, (k + 1) % 8, k % 4, 0, 1, k);
        }
        for (int k = 0; k < 10; k++) {
            x.buy(0, 100);
        }
        for (int k = 0; k < 50; k++) {
            x.pass(100);
        }
        x.learn(0, 0);
        Arena.draftOf(x, 8);
        return x;
    }

    private void onNew() {
        List<Wrong> wrongs = new ArrayList<>();
        add(wrongs, "stroke of one place", Check.WRONG, x -> x.stroke(4, 4, 4, 4));
        add(wrongs, "stroke beyond", Check.WRONG, x -> x.stroke(4, 4, 4, 100));
        add(wrongs, "sign of nothing", Check.NOT_NOW, x -> x.sign());
        add(wrongs, "buy of no paper", Check.NO_SUCH, x -> x.buy(3, 0));
        add(wrongs, "buy of no sheets", Check.WRONG, x -> x.buy(0, 0));
        add(wrongs, "rise of no paper", Check.NO_SUCH, x -> x.rise(-1, 1));
        add(wrongs, "rise beyond", Check.WRONG, x -> x.rise(2, 11));
        add(wrongs, "no style", Check.NO_SUCH, style(4, 101, 1, 1));
        add(wrongs, "nearness beyond", Check.WRONG, style(0, 101, 1, 1));
        add(wrongs, "slope beyond", Check.WRONG, style(0, 1, 101, 1));
        add(wrongs, "order beyond", Check.WRONG, style(0, 1, 1, -1));
        add(wrongs, "learn by no judge", Check.NO_SUCH, x -> x.learn(4, 0));
        add(wrongs, "learn of no style", Check.NO_SUCH, x -> x.learn(0, 4));
        add(wrongs, "no days", Check.WRONG, x -> x.pass(0));
        add(wrongs, "101 days", Check.WRONG, x -> x.pass(101));
        add(wrongs, "duel without signs", Check.NOT_NOW, x -> x.duel(0, 1, 0, 0, 1, 0));
        add(wrongs, "duel against oneself", Check.WRONG, x -> x.duel(1, 1, 0, 0, 1, 0));
        add(wrongs, "hand in no duel", Check.NO_SUCH, x -> x.hand(0, 1000));
        add(wrongs, "look in no duel", Check.NO_SUCH, x -> x.look(0, 0, false));
        add(wrongs, "appeal in no duel", Check.NO_SUCH, x -> x.appeal(0, 0));
        add(wrongs, "prompt in no duel", Check.NO_SUCH, x -> x.prompt(0, 0));
        add(wrongs, "mark for no sign", Check.NO_SUCH, x -> x.mark(0, 0));
        add(wrongs, "part for no sign", Check.NO_SUCH, x -> x.part(0, 0, 3));
        add(wrongs, "marked in no duel", Check.NO_SUCH, x -> x.marked(0, 0, false));
        add(wrongs, "of no duel", Check.NO_SUCH, x -> x.of(0, 6));
        add(wrongs, "paper 3", Check.NO_SUCH, x -> x.paper(3, 2));
        add(wrongs, "what of a paper", Check.WRONG, x -> x.paper(0, 2));
        add(wrongs, "won by no writer", Check.NO_SUCH, x -> x.won(8));
        each("new", InkRing::new, wrongs);
    }

    private void onMidway() {
        List<Wrong> wrongs = new ArrayList<>();
        add(wrongs, "stroke beyond", Check.WRONG, x -> x.stroke(-1, 4, 4, 4));
        add(wrongs, "buy of 101", Check.WRONG, x -> x.buy(0, 101));
        add(wrongs, "rise beyond", Check.WRONG, x -> x.rise(0, -11));
        add(wrongs, "slope beyond", Check.WRONG, style(1, 1, -1, 1));
        add(wrongs, "learn again", Check.NOT_NOW, x -> x.learn(0, 0));
        add(wrongs, "no days", Check.WRONG, x -> x.pass(-5));
        add(wrongs, "duel of no writer", Check.NO_SUCH, x -> x.duel(8, 8, 0, 0, 0, -1));
        add(wrongs, "duel by no judge", Check.NO_SUCH, x -> x.duel(1, 1, 4, 0, 0, -1));
        add(wrongs, "duel on no paper", Check.NO_SUCH, x -> x.duel(1, 1, 0, 3, 0, -1));
        add(wrongs, "duel of 6 rounds", Check.WRONG, x -> x.duel(1, 2, 0, 0, 6, 0));
        add(wrongs, "duel of draw 1000", Check.WRONG, x -> x.duel(1, 2, 0, 0, 1, 1000));
        add(wrongs, "hand of seal 1000", Check.WRONG, x -> x.hand(1, 1000));
        add(wrongs, "hand in an ended duel", Check.NOT_NOW, x -> x.hand(0, 5));
        add(wrongs, "hand without sheets", Check.NOT_NOW, x -> x.hand(2, 5));
        add(wrongs, "look where other has not handed in", Check.NO_SUCH, x -> x.look(1, 1, true));
        add(wrongs, "look behind the last round", Check.NO_SUCH, x -> x.look(0, 1, false));
        add(wrongs, "appeal while it goes on", Check.NOT_NOW, x -> x.appeal(1, 0));
        add(wrongs, "appeal by its judge", Check.NOT_NOW, x -> x.appeal(0, 0));
        add(wrongs, "appeal by no judge", Check.NO_SUCH, x -> x.appeal(1, 4));
        add(wrongs, "prompt behind the last round", Check.NO_SUCH, x -> x.prompt(0, 1));
        add(wrongs, "mark by no style", Check.NO_SUCH, x -> x.mark(0, 4));
        add(wrongs, "part of no stroke", Check.NO_SUCH, x -> x.part(0, 1, 3));
        add(wrongs, "part of no kind", Check.WRONG, x -> x.part(0, 0, 3));
        add(wrongs, "marked where other has not handed in", Check.NO_SUCH, x -> x.marked(1, 1, true));
        add(wrongs, "of a duel, what", Check.WRONG, x -> x.of(1, 6));
        each("midway", WrongCallsTest::midway, wrongs);
    }

    private void onFull() {
        List<Wrong> wrongs = new ArrayList<>();
        add(wrongs, "a ninth stroke", Check.NOT_NOW, x -> x.stroke(1, 2, 3, 4));
        add(wrongs, "a ninth stroke beyond", Check.WRONG, x -> x.stroke(1, 2, 3, 100));
        add(wrongs, "a seventh sign of eight strokes", Check.NOT_NOW, x -> x.sign());
        add(wrongs, "sheet 1001", Check.NOT_NOW, x -> x.buy(0, 1));
        add(wrongs, "sheets beyond at 1000", Check.WRONG, x -> x.buy(0, 101));
        add(wrongs, "learn again", Check.NOT_NOW, x -> x.learn(0, 0));
        add(wrongs, "day 5001", Check.NOT_NOW, x -> x.pass(1));
        add(wrongs, "days beyond on the last", Check.WRONG, x -> x.pass(101));
        add(wrongs, "a thirteenth duel", Check.NOT_NOW, x -> x.duel(1, 2, 0, 0, 1, 0));
        add(wrongs, "a thirteenth duel against oneself", Check.WRONG, x -> x.duel(1, 1, 0, 0, 1, 0));
        each("full", WrongCallsTest::full, wrongs);
    }

    /** Questions change nothing: neither do those that compute much. */
    private void questions() {
        List<Wrong> asked = new ArrayList<>();
        add(asked, "prompt", "2", x -> x.prompt(1, 0));
        add(asked, "mark", Check.answer(() -> midway().mark(1, 0)), x -> x.mark(1, 0));
        add(asked, "part", "10.0", x -> x.part(1, 0, 2));
        add(asked, "marked", Check.answer(() -> midway().marked(0, 0, false)), x -> x.marked(0, 0, false));
        add(asked, "of", "5", x -> x.of(1, 0) + x.of(0, 0));
        add(asked, "paper", "31", x -> x.paper(0, 0) + x.paper(0, 1));
        add(asked, "won", "1", x -> x.won(0) + x.won(1));
        each("questions", WrongCallsTest::midway, asked);
    }

    private static RingCall style(int style, int nearness, int slope, int order) {
        return ring -> {
            ring.style(style, nearness, slope, order);
            return Check.NOTHING;
        };
    }

    private static void add(List<Wrong> wrongs, String text, String want, RingCall call) {
        wrongs.add(new Wrong(text, want, call));
    }

    private void each(String state, Making making, List<Wrong> wrongs) {
        String untouched = transcript(making.make());
        for (Wrong wrong : wrongs) {
            InkRing ring = making.make();
            check.due(state + ": " + wrong.text, wrong.want, () -> wrong.call.on(ring));
            check.same(state + ": what comes behind " + wrong.text, untouched, transcript(ring));
        }
    }

    /** Everything that can be asked, then what shows the hidden state only by being done. */
    private static String transcript(InkRing x) {
        StringBuilder all = new StringBuilder();
        asked(x, all);
        put(all, x::clear);
        put(all, () -> x.stroke(9, 8, 7, 6));
        put(all, () -> x.pass(1));
        for (int k = 0; k < 16; k++) {
            int number = k;
            put(all, () -> x.learn(number / 4, number % 4));
        }
        for (int k = 0; k < 3; k++) {
            int paper = k;
            put(all, () -> x.paper(paper, 1));
            put(all, () -> x.buy(paper, 20));
        }
        put(all, x::sign);
        put(all, () -> x.duel(5, 6, 1, 2, 1, 3));
        for (int k = 0; k < 18; k++) {
            int duel = k % 3;
            put(all, () -> Arena.handOff(x, duel, 500, duel));
        }
        looked(x, all);
        put(all, () -> x.appeal(0, 1));
        put(all, () -> x.appeal(1, 0));
        asked(x, all);
        return all.toString();
    }

    private static void asked(InkRing x, StringBuilder all) {
        for (int k = 0; k < 8; k++) {
            int writer = k;
            put(all, () -> x.won(writer));
        }
        for (int k = 0; k < 12; k++) {
            int sign = k / 4;
            int style = k % 4;
            put(all, () -> x.mark(sign, style));
            put(all, () -> x.part(sign, style / 2, style % 2));
        }
        for (int k = 0; k < 18; k++) {
            int duel = k / 6;
            int what = k % 6;
            put(all, () -> x.of(duel, what));
            put(all, () -> x.marked(duel, what / 2, what % 2 == 1));
            put(all, () -> x.prompt(duel, what));
        }
        for (int k = 0; k < 3; k++) {
            int paper = k;
            put(all, () -> x.paper(paper, 0));
            put(all, () -> x.paper(paper, 1));
        }
    }

    private static void looked(InkRing x, StringBuilder all) {
        for (int k = 0; k < 18; k++) {
            int duel = k / 6;
            int writing = k % 6;
            put(all, () -> x.look(duel, writing / 2, writing % 2 == 1));
            put(all, () -> x.of(duel, 1) + 10 * x.of(duel, 2));
        }
    }

    private static void put(StringBuilder all, Check.Call call) {
        all.append(Check.answer(call)).append(' ');
    }
}
