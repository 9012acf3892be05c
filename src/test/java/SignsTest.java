/** Promises 1 to 4: a new object, stroke, clear, sign. */
public final class SignsTest {
    private static final int[] BEYOND = {-1, 100, Integer.MIN_VALUE, Integer.MAX_VALUE};

    private SignsTest() {
    }

    public static void main(String[] args) {
        Check check = new Check("SignsTest");
        promise1NewHoldsNothing(check);
        promise1ObjectsAreApart(check);
        promise2CountsStrokes(check);
        promise2Ranges(check);
        promise2Full(check);
        promise3Clear(check);
        promise4Numbers(check);
        promise4Lengths(check);
        promise4SignStays(check);
        check.end();
    }

    private static void promise1NewHoldsNothing(Check check) {
        InkRing x = new InkRing();
        check.same("NONE", -1, InkRing.NONE);
        check.due("mark without signs", Check.NO_SUCH, () -> x.mark(0, 0));
        check.due("of without duels", Check.NO_SUCH, () -> x.of(0, 0));
        check.due("duel without signs", Check.NOT_NOW, () -> x.duel(0, 1, 0, 0, 1, 0));
        check.due("clear of a new one", 0, x::clear);
        for (int k = 0; k < 3; k++) {
            int paper = k;
            check.due("sheets of paper " + k, 0, () -> x.paper(paper, 0));
            check.due("damp of paper " + k, 0, () -> x.paper(paper, 1));
        }
        for (int k = 0; k < 8; k++) {
            int writer = k;
            check.due("won of writer " + k, 0, () -> x.won(writer));
        }
        check.due("the first sign", 0, () -> Arena.sign(x, 0, 0, 1, 1));
        check.due("the first duel", 0, () -> x.duel(0, 1, 0, 0, 1, 0));
        check.due("its day", 0, () -> x.of(0, 4));
        Arena.draft(x, 0, 0, 1, 1);
        for (int k = 0; k < 4; k++) {
            int number = k;
            check.due("mark by a new style " + k, 0.0f, () -> x.mark(0, number));
            check.due("first learned by judge " + k, 1, () -> x.learn(number, 3));
        }
        check.due("the first day that passes", 1, () -> x.pass(1));
        check.due("damp without a rise", 0, () -> x.paper(0, 1));
    }

    private static void promise1ObjectsAreApart(Check check) {
        InkRing x = new InkRing();
        InkRing y = new InkRing();
        Arena.sign(x, 0, 0, 1, 1);
        Arena.draft(x, 0, 0, 1, 1);
        x.buy(0, 5);
        x.pass(7);
        check.due("signs of another arena", Check.NO_SUCH, () -> y.mark(0, 0));
        check.due("draft of another arena", 0, y::clear);
        check.due("sheets of another arena", 0, () -> y.paper(0, 0));
        check.due("day of another arena", 1, () -> y.pass(1));
    }

    private static void promise2CountsStrokes(Check check) {
        InkRing x = new InkRing();
        check.due("corner to corner", 1, () -> x.stroke(0, 0, 99, 99));
        check.due("back", 2, () -> x.stroke(99, 99, 0, 0));
        check.due("only y differs", 3, () -> x.stroke(5, 5, 5, 6));
        check.due("only x differs", 4, () -> x.stroke(5, 5, 6, 5));
        check.due("x and y changed about", 5, () -> x.stroke(5, 6, 6, 5));
        check.due("the same once more", 6, () -> x.stroke(5, 6, 6, 5));
        check.due("sign of these", 0, x::sign);
        Arena.draft(x, 0, 0, 99, 98);
        check.due("first stroke is kept", 10.0f - 1.0f / 10.0f, () -> x.part(0, 0, 0));
    }

    private static void promise2Ranges(Check check) {
        InkRing x = new InkRing();
        for (int bad : BEYOND) {
            check.due("x " + bad, Check.WRONG, () -> x.stroke(bad, 1, 2, 3));
            check.due("y " + bad, Check.WRONG, () -> x.stroke(1, bad, 2, 3));
            check.due("endX " + bad, Check.WRONG, () -> x.stroke(1, 2, bad, 3));
            check.due("endY " + bad, Check.WRONG, () -> x.stroke(1, 2, 3, bad));
        }
        check.due("both places the same", Check.WRONG, () -> x.stroke(7, 8, 7, 8));
        check.due("both places 0", Check.WRONG, () -> x.stroke(0, 0, 0, 0));
        check.due("nothing was put", 0, x::clear);
    }

    private static void promise2Full(Check check) {
        InkRing x = new InkRing();
        for (int k = 1; k <= 8; k++) {
            check.due("stroke " + k, k, () -> x.stroke(1, 2, 3, 4));
        }
        check.due("a ninth", Check.NOT_NOW, () -> x.stroke(1, 2, 3, 4));
        check.due("a ninth out of range", Check.WRONG, () -> x.stroke(1, 2, 3, 100));
        check.due("a ninth of one place", Check.WRONG, () -> x.stroke(1, 2, 1, 2));
        check.due("still eight", 8, x::clear);
        check.due("then the first again", 1, () -> x.stroke(1, 2, 3, 4));
    }

    private static void promise3Clear(Check check) {
        InkRing x = new InkRing();
        check.due("clear of none", 0, x::clear);
        Arena.draftOf(x, 3);
        check.due("clear of three", 3, x::clear);
        check.due("clear again", 0, x::clear);
        check.due("sign of a cleared draft", Check.NOT_NOW, x::sign);
        Arena.sign(x, 0, 0, 9, 9);
        Arena.draftOf(x, 2);
        x.clear();
        check.due("no stroke after clear", Check.NO_SUCH, () -> x.part(0, 0, 0));
        check.due("one stroke after clear", 1, () -> x.stroke(0, 0, 9, 9));
        check.due("no second stroke after clear", 10.0f, () -> x.part(0, 0, 2));
    }

    private static void promise4Numbers(Check check) {
        InkRing x = new InkRing();
        for (int k = 0; k < 6; k++) {
            Arena.draftOf(x, k + 1);
            check.due("sign " + k, k, x::sign);
            check.due("draft after sign " + k, 0, x::clear);
        }
        Arena.draftOf(x, 1);
        check.due("a seventh sign", Check.NOT_NOW, x::sign);
        check.due("mark for the last sign", 0.0f, () -> x.mark(5, 0));
        check.due("mark for a seventh sign", Check.NO_SUCH, () -> x.mark(6, 0));
        check.due("the draft stays", 1, x::clear);
    }

    private static void promise4Lengths(Check check) {
        InkRing x = new InkRing();
        check.due("sign of nothing", Check.NOT_NOW, x::sign);
        Arena.draftOf(x, 7);
        check.due("sign of seven", Check.NOT_NOW, x::sign);
        check.due("seven stay", 8, () -> x.stroke(1, 2, 3, 4));
        check.due("sign of eight", Check.NOT_NOW, x::sign);
        check.due("eight stay", 8, x::clear);
        Arena.draftOf(x, 6);
        check.due("sign of six", 0, x::sign);
    }

    private static void promise4SignStays(Check check) {
        InkRing x = new InkRing();
        Arena.sign(x, 10, 10, 60, 10);
        Arena.sign(x, 90, 90, 20, 90);
        Arena.draft(x, 10, 10, 60, 10);
        check.due("nearness to the first sign", 10.0f, () -> x.part(0, 0, 0));
        check.due("nearness to the second sign", 0.0f, () -> x.part(1, 0, 0));
        x.clear();
        Arena.draft(x, 90, 90, 20, 90);
        check.due("nearness to the first sign then", 0.0f, () -> x.part(0, 0, 0));
        check.due("nearness to the second sign then", 10.0f, () -> x.part(1, 0, 0));
    }
}
