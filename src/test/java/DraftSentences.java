/** Promises 1 to 4: a new object, stroke, clear, sign. */
final class DraftSentences {
    private static final String[] NUMBERS = {"x", "y", "endX", "endY"};

    private DraftSentences() {
    }

    static void tell(Sentences s) {
        s.in("Promise 1: A new object");
        s.holds("Opens an arena without signs", DraftSentences::withoutSigns);
        s.holds("and sheets", DraftSentences::withoutSheets);
        s.holds("on the day 0", DraftSentences::onTheDay0);
        s.in("Promise 2: stroke");
        s.holds("Puts a stroke behind the draft", DraftSentences::behindTheDraft);
        for (int k = 0; k < NUMBERS.length; k++) {
            int number = k;
            s.holds("- `" + NUMBERS[k] + "`: 0 to 99", check -> numberOfAStroke(check, number));
        }
        s.holds("Returns how many the draft has then", DraftSentences::howManyThen);
        s.holds("if a number is out of range", DraftSentences::numbersOutOfRange);
        s.holds("or both places are the same", DraftSentences::bothPlacesTheSame);
        s.holds("Throws `IllegalStateException` if it has 8", DraftSentences::ifItHas8);
        s.in("Promise 3: clear");
        s.holds("Empties the draft", DraftSentences::empties);
        s.holds("returns how many strokes it had", DraftSentences::howManyItHad);
        s.in("Promise 4: sign");
        s.holds("Makes the draft a sign", DraftSentences::makesASign);
        s.holds("it is empty then", DraftSentences::emptyByASign);
        s.holds("Returns its number", DraftSentences::signNumbers);
        s.holds("if the draft is empty", DraftSentences::signOfNothing);
        s.holds("has more than 6 strokes", DraftSentences::signOfMoreThan6);
        s.holds("or there are 6 signs", DraftSentences::ifThereAre6);
    }

    // ---- a new object

    private static void withoutSigns(Check check) {
        Twins.refused(check, "mark", Check.NO_SUCH, InkRing::new, x -> x.mark(0, 0));
        Twins.refused(check, "part", Check.NO_SUCH, InkRing::new, x -> x.part(0, 0, 0));
        Twins.refused(check, "duel", Check.NOT_NOW, InkRing::new, x -> x.duel(0, 1, 0, 0, 1, 0));
        Twins.refused(check, "sign of an empty draft", Check.NOT_NOW, InkRing::new, x -> x.sign());
        check.due("the first sign", 0, () -> drafted(1).sign());
    }

    private static void withoutSheets(Check check) {
        for (int k = 0; k < 3; k++) {
            int paper = k;
            check.due("sheets of " + k, 0, () -> new InkRing().paper(paper, 0));
            check.due("the first of " + k, 1, () -> new InkRing().buy(paper, 1));
        }
    }

    private static void onTheDay0(Check check) {
        InkRing x = new InkRing();
        Arena.sign(x, 0, 0, 50, 0);
        x.duel(0, 1, 0, 0, 1, 0);
        check.due("day of a first duel", 0, () -> x.of(0, 4));
        for (int k = 1; k <= 50; k++) {
            int day = 100 * k;
            check.due("a hundred days more", day, () -> x.pass(100));
        }
        check.due("so day 5000 was reached from 0", Check.NOT_NOW, () -> x.pass(1));
    }

    // ---- stroke

    private static InkRing drafted(int strokes) {
        InkRing x = new InkRing();
        Arena.draftOf(x, strokes);
        return x;
    }

    private static void behindTheDraft(Check check) {
        InkRing x = drafted(6);
        x.sign();
        for (int k = 0; k < 8; k++) {
            x.stroke(k, 0, 50, 50);
            for (int before = 0; before <= Math.min(k, 5); before++) {
                int stroke = before;
                check.due("stroke " + before + " when " + k + " is put", 10.0f, () -> x.part(0, stroke, 0));
            }
        }
        InkRing y = drafted(2);
        y.sign();
        y.stroke(1, 0, 50, 50);
        y.stroke(0, 0, 50, 50);
        check.due("the first is the first that was put", 9.9f, () -> y.part(0, 0, 0));
        check.due("the second one is behind it", 9.9f, () -> y.part(0, 1, 0));
    }

    private static int strokeWith(InkRing x, int number, int value) {
        int[] places = {40, 41, 42, 43};
        places[number] = value;
        return x.stroke(places[0], places[1], places[2], places[3]);
    }

    private static void numberOfAStroke(Check check, int number) {
        int[] allowed = {0, 1, 98, 99};
        int[] besides = {1, 0, 99, 98};
        for (int k = 0; k < allowed.length; k++) {
            InkRing x = new InkRing();
            int value = allowed[k];
            int beside = besides[k];
            check.due("number " + value, 1, () -> strokeWith(x, number, value));
            x.sign();
            strokeWith(x, number, value);
            check.due("kept as " + value, 10.0f, () -> x.part(0, 0, 0));
            x.clear();
            strokeWith(x, number, beside);
            check.due("another one than " + beside, 9.9f, () -> x.part(0, 0, 0));
        }
        Twins.NumberedCall call = (x, n) -> strokeWith(x, number, n);
        Twins.refusedBeyond(check, "number", Check.WRONG, 0, 99, InkRing::new, call);
        Twins.refusedBeyond(check, "number, midway", Check.WRONG, 0, 99, Twins::midway, call);
    }

    private static void howManyThen(Check check) {
        InkRing x = Arena.plain();
        x.duel(0, 1, 0, 0, 1, 0);
        for (int k = 1; k <= 8; k++) {
            check.due("stroke " + k, k, () -> x.stroke(1, 2, 3, 4));
        }
        x.hand(0, 0);
        check.due("the first when handed in", 1, () -> x.stroke(1, 2, 3, 4));
        x.sign();
        check.due("the first behind a sign", 1, () -> x.stroke(1, 2, 3, 4));
        check.due("the second one", 2, () -> x.stroke(1, 2, 3, 4));
        x.clear();
        check.due("the first when cleared", 1, () -> x.stroke(1, 2, 3, 4));
    }

    private static void numbersOutOfRange(Check check) {
        int[][] wrong = {
            {-1, -1, 0, 0}, {0, 0, -1, -1}, {100, 100, 99, 99}, {99, 99, 100, 100}, {-1, 0, 100, 0}, {0, 100, 0, -1},
            {100, 100, 100, 100}, {-1, -1, -1, -1}, {Integer.MIN_VALUE, 0, Integer.MIN_VALUE, 0},
            {0, Integer.MAX_VALUE, 0, Integer.MAX_VALUE},
        };
        for (int[] a : wrong) {
            for (Twins.Making making : new Twins.Making[] {InkRing::new, Twins::midway, Twins::full}) {
                Twins.refused(check, "numbers", Check.WRONG, making, x -> x.stroke(a[0], a[1], a[2], a[3]));
            }
        }
    }

    private static void bothPlacesTheSame(Check check) {
        int[][] places = {{0, 0}, {0, 99}, {99, 0}, {99, 99}, {50, 50}, {0, 50}};
        for (int[] a : places) {
            for (Twins.Making making : new Twins.Making[] {InkRing::new, Twins::midway, Twins::full}) {
                Twins.refused(check, "the same", Check.WRONG, making, x -> x.stroke(a[0], a[1], a[0], a[1]));
            }
        }
        check.due("only x the same", 1, () -> new InkRing().stroke(50, 50, 50, 51));
        check.due("only y the same", 1, () -> new InkRing().stroke(50, 50, 49, 50));
        check.due("changed about", 1, () -> new InkRing().stroke(50, 51, 51, 50));
        check.due("x as y, y as x", 1, () -> new InkRing().stroke(0, 0, 99, 99));
    }

    private static void ifItHas8(Check check) {
        check.due("the eighth", 8, () -> drafted(7).stroke(1, 2, 3, 4));
        Twins.refused(check, "a ninth", Check.NOT_NOW, () -> drafted(8), x -> x.stroke(1, 2, 3, 4));
        Twins.refused(check, "a ninth on a full arena", Check.NOT_NOW, Twins::full, x -> x.stroke(0, 0, 99, 99));
        InkRing x = drafted(8);
        x.clear();
        check.due("eight were cleared", 1, () -> x.stroke(1, 2, 3, 4));
    }

    // ---- clear

    private static void empties(Check check) {
        for (int strokes : new int[] {0, 1, 8}) {
            InkRing x = drafted(strokes);
            x.clear();
            check.due(strokes + " cleared, sign", Check.NOT_NOW, x::sign);
            check.due(strokes + " cleared, clear", 0, x::clear);
            check.due(strokes + " cleared, stroke", 1, () -> x.stroke(0, 0, 50, 50));
            check.due(strokes + " cleared, a sign of one", 0, x::sign);
            check.due(strokes + " cleared, no stroke to be marked", Check.NO_SUCH, () -> x.part(0, 0, 0));
        }
        InkRing x = Arena.plain();
        x.duel(0, 1, 0, 0, 1, 0);
        Arena.draftOf(x, 8);
        x.clear();
        check.due("nothing to hand in", Check.NOT_NOW, () -> x.hand(0, 0));
        check.due("a mark of nothing", 0.0f, () -> x.mark(0, 0));
    }

    private static void howManyItHad(Check check) {
        for (int k = 0; k <= 8; k++) {
            int strokes = k;
            InkRing x = drafted(strokes);
            check.due("had " + k, strokes, x::clear);
            check.due("has none", 0, x::clear);
        }
        InkRing x = drafted(6);
        x.sign();
        check.due("had none behind a sign", 0, x::clear);
    }

    // ---- sign

    private static void makesASign(Check check) {
        for (int k = 1; k <= 6; k++) {
            int strokes = k;
            InkRing x = drafted(strokes);
            x.sign();
            x.style(0, 100, 0, 100);
            check.due("the draft is gone from it", 0.0f, () -> x.mark(0, 0));
            Arena.draftOf(x, strokes);
            check.due("as it was drafted, " + k, 20.0f, () -> x.mark(0, 0));
            x.clear();
            x.stroke(99, 99, 98, 98);
            check.due("not changed by the next draft, " + k, 0.0f, () -> x.part(0, 0, 0));
            x.sign();
            Arena.draftOf(x, strokes);
            check.due("not changed by the next sign, " + k, 20.0f, () -> x.mark(0, 0));
        }
    }

    private static void emptyByASign(Check check) {
        for (int strokes : new int[] {1, 6}) {
            InkRing x = drafted(strokes);
            x.sign();
            check.due("sign again", Check.NOT_NOW, x::sign);
            check.due("part", Check.NO_SUCH, () -> x.part(0, 0, 0));
            check.due("clear", 0, x::clear);
            x.buy(0, 1);
            x.duel(0, 1, 0, 0, 1, 0);
            check.due("hand", Check.NOT_NOW, () -> x.hand(0, 0));
            check.due("stroke", 1, () -> x.stroke(1, 2, 3, 4));
        }
    }

    private static void signNumbers(Check check) {
        InkRing x = new InkRing();
        for (int k = 0; k < 6; k++) {
            int number = k;
            check.due("sign " + k, number, () -> Arena.sign(x, 0, 0, 50, number));
            x.pass(1);
        }
        for (int k = 0; k < 6; k++) {
            int number = k;
            Arena.draft(x, 0, 0, 50, number);
            check.due("by its number " + k, 10.0f, () -> x.part(number, 0, 0));
            check.due("another one than " + k, 9.9f, () -> x.part(number == 5 ? 4 : number + 1, 0, 0));
            x.clear();
        }
    }

    private static void signOfNothing(Check check) {
        Twins.refused(check, "new", Check.NOT_NOW, InkRing::new, x -> x.sign());
        Twins.Making cleared = () -> {
            InkRing x = drafted(3);
            x.clear();
            return x;
        };
        Twins.refused(check, "cleared", Check.NOT_NOW, cleared, x -> x.sign());
        Twins.Making signed = () -> {
            InkRing x = drafted(6);
            x.sign();
            return x;
        };
        Twins.refused(check, "behind a sign", Check.NOT_NOW, signed, x -> x.sign());
        Twins.Making handedIn = () -> {
            InkRing x = Arena.plain();
            x.duel(0, 1, 0, 0, 1, 0);
            Arena.handOff(x, 0, 0, 0);
            return x;
        };
        Twins.refused(check, "handed in", Check.NOT_NOW, handedIn, x -> x.sign());
        check.due("one stroke is enough", 0, () -> drafted(1).sign());
    }

    private static void signOfMoreThan6(Check check) {
        check.due("six", 0, () -> drafted(6).sign());
        Twins.refused(check, "seven", Check.NOT_NOW, () -> drafted(7), x -> x.sign());
        Twins.refused(check, "eight", Check.NOT_NOW, () -> drafted(8), x -> x.sign());
        InkRing x = drafted(8);
        check.due("refused", Check.NOT_NOW, x::sign);
        check.due("eight are left in the draft", 8, x::clear);
    }

    private static InkRing signs(int count, int draftedThen) {
        InkRing x = new InkRing();
        for (int k = 0; k < count; k++) {
            Arena.sign(x, 0, 0, 50, k);
        }
        Arena.draftOf(x, draftedThen);
        return x;
    }

    private static void ifThereAre6(Check check) {
        check.due("the sixth", 5, () -> signs(5, 1).sign());
        Twins.refused(check, "a seventh of one", Check.NOT_NOW, () -> signs(6, 1), x -> x.sign());
        Twins.refused(check, "a seventh of six", Check.NOT_NOW, () -> signs(6, 6), x -> x.sign());
        Twins.refused(check, "a seventh of none", Check.NOT_NOW, () -> signs(6, 0), x -> x.sign());
        Twins.refused(check, "a seventh of seven", Check.NOT_NOW, () -> signs(6, 7), x -> x.sign());
        InkRing x = signs(6, 4);
        check.due("refused", Check.NOT_NOW, x::sign);
        check.due("four are left in the draft", 4, x::clear);
    }
}
