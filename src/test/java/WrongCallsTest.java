import java.util.ArrayList;
import java.util.List;

/**
 * A call that throws changes nothing: of two arenas alike, one takes the wrong call, and all that can
 * be asked or done behind it must answer alike. The same with questions that are answered.
 */
public final class WrongCallsTest {
    private static final class Wrong {
        final String text;
        final String want;
        final Twins.RingCall call;

        Wrong(String text, String want, Twins.RingCall call) {
            this.text = text;
            this.want = want;
            this.call = call;
        }
    }

    private final Check check = new Check("WrongCallsTest");

    private WrongCallsTest() {
    }

    public static void main(String[] args) {
        WrongCallsTest test = new WrongCallsTest();
        test.onNew();
        test.onMidway();
        test.onFull();
        test.questions();
        test.check.end();
    }

    private void onNew() {
        List<Wrong> wrongs = new ArrayList<>();
        add(wrongs, "stroke of one place", Check.WRONG, x -> x.stroke(4, 4, 4, 4));
        add(wrongs, "stroke beyond", Check.WRONG, x -> x.stroke(4, 4, 4, 100));
        add(wrongs, "sign of nothing", Check.NOT_NOW, x -> x.sign());
        add(wrongs, "buy of no paper", Check.NO_SUCH, x -> x.buy(3, 0));
        add(wrongs, "buy of no sheets", Check.WRONG, x -> x.buy(0, 0));
        add(wrongs, "rise of no paper", Check.NO_SUCH, x -> x.rise(-1, 1));
        add(wrongs, "rise beyond", Check.WRONG, x -> x.rise(2, 11));
        add(wrongs, "no style", Check.NO_SUCH, Twins.style(4, 101, 1, 1));
        add(wrongs, "nearness beyond", Check.WRONG, Twins.style(0, 101, 1, 1));
        add(wrongs, "slope beyond", Check.WRONG, Twins.style(0, 1, 101, 1));
        add(wrongs, "order beyond", Check.WRONG, Twins.style(0, 1, 1, -1));
        add(wrongs, "learn by no judge", Check.NO_SUCH, x -> x.learn(4, 0));
        add(wrongs, "learn of no style", Check.NO_SUCH, x -> x.learn(0, 4));
        add(wrongs, "no days", Check.WRONG, x -> x.pass(0));
        add(wrongs, "101 days", Check.WRONG, x -> x.pass(101));
        add(wrongs, "duel without signs", Check.NOT_NOW, x -> x.duel(0, 1, 0, 0, 1, 0));
        add(wrongs, "duel against oneself", Check.WRONG, x -> x.duel(1, 1, 0, 0, 1, 0));
        add(wrongs, "hand in no duel", Check.NO_SUCH, x -> x.hand(0, 1000));
        add(wrongs, "look in no duel", Check.NO_SUCH, x -> x.look(0, 0, false));
        add(wrongs, "appeal in no duel", Check.NO_SUCH, x -> x.appeal(0, 0));
        add(wrongs, "prompt in no duel", Check.NO_SUCH, x -> x.prompt(0, 0));
        add(wrongs, "mark for no sign", Check.NO_SUCH, x -> x.mark(0, 0));
        add(wrongs, "part for no sign", Check.NO_SUCH, x -> x.part(0, 0, 3));
        add(wrongs, "marked in no duel", Check.NO_SUCH, x -> x.marked(0, 0, false));
        add(wrongs, "of no duel", Check.NO_SUCH, x -> x.of(0, 6));
        add(wrongs, "paper 3", Check.NO_SUCH, x -> x.paper(3, 2));
        add(wrongs, "what of a paper", Check.WRONG, x -> x.paper(0, 2));
        add(wrongs, "won by no writer", Check.NO_SUCH, x -> x.won(8));
        each("new", InkRing::new, wrongs);
    }

    private void onMidway() {
        List<Wrong> wrongs = new ArrayList<>();
        add(wrongs, "stroke beyond", Check.WRONG, x -> x.stroke(-1, 4, 4, 4));
        add(wrongs, "buy of 101", Check.WRONG, x -> x.buy(0, 101));
        add(wrongs, "rise beyond", Check.WRONG, x -> x.rise(0, -11));
        add(wrongs, "slope beyond", Check.WRONG, Twins.style(1, 1, -1, 1));
        add(wrongs, "learn again", Check.NOT_NOW, x -> x.learn(0, 0));
        add(wrongs, "no days", Check.WRONG, x -> x.pass(-5));
        add(wrongs, "duel of no writer", Check.NO_SUCH, x -> x.duel(8, 8, 0, 0, 0, -1));
        add(wrongs, "duel by no judge", Check.NO_SUCH, x -> x.duel(1, 1, 4, 0, 0, -1));
        add(wrongs, "duel on no paper", Check.NO_SUCH, x -> x.duel(1, 1, 0, 3, 0, -1));
        add(wrongs, "duel of 6 rounds", Check.WRONG, x -> x.duel(1, 2, 0, 0, 6, 0));
        add(wrongs, "duel of draw 1000", Check.WRONG, x -> x.duel(1, 2, 0, 0, 1, 1000));
        add(wrongs, "hand of seal 1000", Check.WRONG, x -> x.hand(1, 1000));
        add(wrongs, "hand in an ended duel", Check.NOT_NOW, x -> x.hand(0, 5));
        add(wrongs, "hand without sheets", Check.NOT_NOW, x -> x.hand(2, 5));
        add(wrongs, "look where other has not handed in", Check.NO_SUCH, x -> x.look(1, 1, true));
        add(wrongs, "look behind the last round", Check.NO_SUCH, x -> x.look(0, 1, false));
        add(wrongs, "appeal while it goes on", Check.NOT_NOW, x -> x.appeal(1, 0));
        add(wrongs, "appeal by its judge", Check.NOT_NOW, x -> x.appeal(0, 0));
        add(wrongs, "appeal by no judge", Check.NO_SUCH, x -> x.appeal(1, 4));
        add(wrongs, "prompt behind the last round", Check.NO_SUCH, x -> x.prompt(0, 1));
        add(wrongs, "mark by no style", Check.NO_SUCH, x -> x.mark(0, 4));
        add(wrongs, "part of no stroke", Check.NO_SUCH, x -> x.part(0, 1, 3));
        add(wrongs, "part of no kind", Check.WRONG, x -> x.part(0, 0, 3));
        add(wrongs, "marked where other has not handed in", Check.NO_SUCH, x -> x.marked(1, 1, true));
        add(wrongs, "of a duel, what", Check.WRONG, x -> x.of(1, 6));
        each("midway", Twins::midway, wrongs);
    }

    private void onFull() {
        List<Wrong> wrongs = new ArrayList<>();
        add(wrongs, "a ninth stroke", Check.NOT_NOW, x -> x.stroke(1, 2, 3, 4));
        add(wrongs, "a ninth stroke beyond", Check.WRONG, x -> x.stroke(1, 2, 3, 100));
        add(wrongs, "a seventh sign of eight strokes", Check.NOT_NOW, x -> x.sign());
        add(wrongs, "sheet 1001", Check.NOT_NOW, x -> x.buy(0, 1));
        add(wrongs, "sheets beyond at 1000", Check.WRONG, x -> x.buy(0, 101));
        add(wrongs, "learn again", Check.NOT_NOW, x -> x.learn(0, 0));
        add(wrongs, "day 5001", Check.NOT_NOW, x -> x.pass(1));
        add(wrongs, "days beyond on the last", Check.WRONG, x -> x.pass(101));
        add(wrongs, "a thirteenth duel", Check.NOT_NOW, x -> x.duel(1, 2, 0, 0, 1, 0));
        add(wrongs, "a thirteenth duel against oneself", Check.WRONG, x -> x.duel(1, 1, 0, 0, 1, 0));
        each("full", Twins::full, wrongs);
    }

    /** Questions change nothing: neither do those that compute much. */
    private void questions() {
        List<Wrong> asked = new ArrayList<>();
        add(asked, "prompt", "2", x -> x.prompt(1, 0));
        add(asked, "mark", Check.answer(() -> Twins.midway().mark(1, 0)), x -> x.mark(1, 0));
        add(asked, "part", "10.0", x -> x.part(1, 0, 2));
        add(asked, "marked", Check.answer(() -> Twins.midway().marked(0, 0, false)), x -> x.marked(0, 0, false));
        add(asked, "of", "5", x -> x.of(1, 0) + x.of(0, 0));
        add(asked, "paper", "31", x -> x.paper(0, 0) + x.paper(0, 1));
        add(asked, "won", "1", x -> x.won(0) + x.won(1));
        each("questions", Twins::midway, asked);
    }

    private static void add(List<Wrong> wrongs, String text, String want, Twins.RingCall call) {
        wrongs.add(new Wrong(text, want, call));
    }

    private void each(String state, Twins.Making making, List<Wrong> wrongs) {
        for (Wrong wrong : wrongs) {
            Twins.refused(check, state + ": " + wrong.text, wrong.want, making, wrong.call);
        }
    }
}
