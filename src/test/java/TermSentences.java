/** 'What it is' and, of the terms: numbers; signs, writings; paper, judges. */
final class TermSentences {
    private static final int[] LEVEL = {0, 0, 50, 0};

    private TermSentences() {
    }

    static void tell(Sentences s) {
        s.in("What it is");
        s.holds("An object is used for at most 512 calls", TermSentences::theLastCall);
        s.holds("An object is used for at most 512 calls", TermSentences::theLastCallOfAFullArena);
        s.in("Terms");
        s.holds("by the styles that its judge knew that day", TermSentences::stylesOfThatDay);
        s.in("Numbers");
        s.holds("what is divided or multiplied in them goes from left to right", TermSentences::fromLeftToRight);
        s.holds("sums are made one behind the other", TermSentences::oneBehindTheOther);
        s.in("Signs, writings");
        signs(s);
        strokeParts(s);
        styles(s);
        s.in("Paper, judges");
        paper(s);
        judges(s);
    }

    private static void signs(Sentences s) {
        s.holds("Signs are numbered from 0", TermSentences::signsFrom0);
        s.holds("at most 6", TermSentences::sixSigns);
        s.holds("a sign has 1 to 6 strokes", TermSentences::strokesOfASign);
        s.holds("each from a place to another one, x and y 0 to 99 each", TermSentences::cornersOfThePaper);
        s.holds("the places of a stroke not the same", TermSentences::placesNotTheSame);
        s.holds("A writing is a row of strokes, too, at most 8", TermSentences::eightStrokes);
    }

    private static void strokeParts(Sentences s) {
        s.holds("as long as both have one", TermSentences::asLongAsBothHaveOne);
        s.holds("its nearness: 10.0f less", TermSentences::nearness);
        s.holds("without signs, together", TermSentences::differencesWithoutSigns);
        s.holds("divided by 10.0f), but at least 0.0f", TermSentences::nearnessAtLeast0);
        s.holds("all that times (1.0f less the damp of its paper divided by 200.0f)", TermSentences::nearnessOnDampPaper);
        s.holds("its slope:", TermSentences::slope);
        s.holds("one behind the other, but at least 0.0f", TermSentences::slopeAtLeast0);
        s.holds("its order: 10.0f if the writing and the sign have as many strokes, otherwise 0.0f", TermSentences::order);
    }

    private static void styles(Sentences s) {
        s.holds("A style has three weights, 0 to 100", TermSentences::weights);
        s.holds("of its strokes so far as both have them", TermSentences::sumOfStrokesOfBoth);
        s.holds("divided by how many strokes the sign has", TermSentences::dividedByTheSigns);
        s.holds("by a judge it is the greatest by the styles that count", TermSentences::greatestByAJudge);
        s.holds("0.0f without any", TermSentences::withoutAnyStyle);
    }

    private static void paper(Sentences s) {
        s.holds("Days are counted from 0", TermSentences::daysFrom0);
        s.holds("There are the papers 0 to 2", TermSentences::papers);
        s.holds("with sheets, none at first", TermSentences::noSheetsAtFirst);
        s.holds("a damp of 0 to 100 hundredths, 0 at first", TermSentences::noDampAtFirst);
        s.holds("with each day that passes the damp of each is more by its rise", TermSentences::dampByDays);
        s.holds("by its rise, -10 to 10", TermSentences::leastAndGreatestRise);
        s.holds("-10 to 10, 0 at first", TermSentences::noRiseAtFirst);
        s.holds("held to 0 to 100", TermSentences::dampHeldAt100);
        s.holds("held to 0 to 100", TermSentences::dampHeldAt0);
        s.holds("held to 0 to 100", TermSentences::dampHeldOnTheWay);
    }

    private static void judges(Sentences s) {
        s.holds("There are the judges 0 to 3 and the styles 0 to 3", TermSentences::judgesAndStyles);
        s.holds("whose weights are all 0 at first", TermSentences::noWeightsAtFirst);
        s.holds("and knows it from that day on", TermSentences::knownFromThatDayOn);
        s.holds("all of that day with it", TermSentences::allOfThatDay);
    }

    // ---- what it is

    private static void theLastCall(Check check) {
        InkRing x = new InkRing();
        Arena.sign(x, LEVEL);
        x.style(0, 100, 0, 0);
        Arena.draft(x, 0, 1, 50, 1);
        for (int call = 5; call < 512; call++) {
            x.mark(0, 0);
        }
        check.due("call 512", 10.0f - 2.0f / 10.0f, () -> x.mark(0, 0));
    }

    private static void theLastCallOfAFullArena(Check check) {
        InkRing x = Arena.plain();
        x.buy(0, 20);
        for (int k = 0; k < 12; k++) {
            x.duel(k % 2, 2, 0, 0, 5, k);
        }
        for (int k = 0; k < 120; k++) {
            int sheet = k + 1;
            check.due("sheet " + sheet, sheet, () -> Arena.handOff(x, (sheet - 1) / 10, 0, sheet % 2 == 1 ? 0 : 9));
        }
        for (int call = 259; call < 512; call++) {
            x.won(0);
        }
        check.due("call 512", 6, () -> x.won(0));
    }

    private static InkRing fourStylesByOrder() {
        InkRing x = new InkRing();
        Arena.sign(x, LEVEL);
        for (int k = 0; k < 4; k++) {
            x.style(k, 0, 0, 10 * (k + 1));
        }
        x.buy(0, 10);
        return x;
    }

    private static void stylesOfThatDay(Check check) {
        InkRing x = fourStylesByOrder();
        x.pass(4);
        x.learn(0, 0);
        x.pass(1);
        x.duel(0, 1, 0, 0, 1, 0);
        Arena.hand(x, 0, 0, LEVEL);
        check.due("learned the day before", 1.0f, () -> x.marked(0, 0, false));
        x.learn(0, 1);
        check.due("learned that day", 2.0f, () -> x.marked(0, 0, false));
        x.pass(1);
        x.learn(0, 2);
        check.due("learned the day after", 2.0f, () -> x.marked(0, 0, false));
        Arena.hand(x, 0, 0, LEVEL);
        check.due("handed in the day after", 2.0f, () -> x.marked(0, 0, true));
        x.duel(0, 1, 0, 0, 1, 0);
        Arena.hand(x, 1, 0, LEVEL);
        check.due("in the next duel", 3.0f, () -> x.marked(1, 0, false));
    }

    // ---- numbers

    /** Slopes and a nearness that are another float in any other order, or as doubles. */
    private static void fromLeftToRight(Check check) {
        InkRing x = new InkRing();
        Arena.sign(x, 50, 50, 15, 57);
        Arena.draft(x, 50, 50, 28, 78);
        check.due("slope of -22, 28 for -35, 7", 5.776510238647461, () -> (double) x.part(0, 0, 1));
        x.clear();
        Arena.sign(x, 10, 99, 12, 25);
        Arena.draft(x, 99, 99, 24, 43);
        check.due("slope of -75, -56 for 2, -74", 3.322628974914551, () -> (double) x.part(1, 0, 1));
        x.clear();
        check.due("nearness at damp 6", 5.9170002937316895, () -> nearnessAt(6, 49, 32, 19, 74, 38, 18, 11, 68));
        check.due("nearness at damp 92", 4.427999496459961, () -> nearnessAt(92, 2, 80, 0, 52, 8, 77, 1, 60));
    }

    /** The nearness of a writing (four numbers) to a sign (the other four) on damp paper. */
    private static double nearnessAt(int damp, int... places) {
        InkRing x = new InkRing();
        Arena.sign(x, places[4], places[5], places[6], places[7]);
        x.style(0, 100, 0, 0);
        x.learn(0, 0);
        x.buy(0, 1);
        x.duel(0, 1, 0, 0, 1, 0);
        x.rise(0, 1);
        if (damp > 0) {
            x.pass(damp);
        }
        Arena.hand(x, 0, 0, places[0], places[1], places[2], places[3]);
        return x.marked(0, 0, false);
    }

    /** Marks that are another float where a sum is made in any other order, or divided piece by piece. */
    private static void oneBehindTheOther(Check check) {
        check.due("weights 4, 83, 69", 15.243474006652832, () -> markOfOne(
                4, 83, 69, 98, 25, 51, 76, 86, 20, 56, 66));
        check.due("weights 11, 19, 67", 9.375797271728516, () -> markOfOne(
                11, 19, 67, 56, 99, 95, 62, 62, 98, 84, 68));
        InkRing x = new InkRing();
        Arena.sign(x, 21, 3, 0, 26, 44, 40, 85, 18, 23, 37, 24, 64, 84, 70, 30, 48, 79, 53, 19, 42, 77, 52, 70, 41);
        x.style(0, 46, 96, 28);
        Arena.draft(x, 10, 11, 0, 21, 50, 35, 87, 27, 29, 23, 21, 78, 82, 78, 24, 45, 71, 66, 7, 55, 69, 43, 66, 31);
        check.due("six strokes", 15.263191223144531, () -> (double) x.mark(0, 0));
    }

    /** The mark by three weights of a writing of four numbers for a sign of the other four. */
    private static double markOfOne(int... numbers) {
        InkRing x = new InkRing();
        Arena.sign(x, numbers[7], numbers[8], numbers[9], numbers[10]);
        Arena.draft(x, numbers[3], numbers[4], numbers[5], numbers[6]);
        x.style(3, numbers[0], numbers[1], numbers[2]);
        return x.mark(0, 3);
    }

    // ---- signs, writings

    private static void signsFrom0(Check check) {
        InkRing x = new InkRing();
        Arena.draft(x, LEVEL);
        check.due("no sign 0 before", Check.NO_SUCH, () -> x.mark(0, 0));
        check.due("the first", 0, x::sign);
        check.due("sign 0", 0.0f, () -> x.mark(0, 0));
        check.due("no sign -1", Check.NO_SUCH, () -> x.mark(-1, 0));
        check.due("no sign 1 yet", Check.NO_SUCH, () -> x.mark(1, 0));
    }

    private static void sixSigns(Check check) {
        InkRing x = new InkRing();
        for (int k = 0; k < 6; k++) {
            int number = k;
            check.due("sign " + k, number, () -> Arena.sign(x, 0, 0, 50, number));
        }
        Arena.draft(x, LEVEL);
        check.due("a seventh", Check.NOT_NOW, x::sign);
        check.due("the sixth", 10.0f, () -> x.part(5, 0, 2));
        check.due("nearness to the first", 10.0f, () -> x.part(0, 0, 0));
        check.due("no seventh", Check.NO_SUCH, () -> x.part(6, 0, 2));
    }

    private static void strokesOfASign(Check check) {
        int[] refused = {0, 7, 8};
        for (int strokes : refused) {
            Twins.refused(check, strokes + " strokes", Check.NOT_NOW, () -> drafted(strokes), InkRing::sign);
        }
        for (int k = 1; k <= 6; k++) {
            InkRing x = drafted(k);
            int strokes = k;
            check.due(k + " strokes", 0, x::sign);
            Arena.draftOf(x, strokes);
            check.due("all " + k + " of them", 10.0f, () -> x.part(0, strokes - 1, 0));
            check.due("as many as " + k, 10.0f, () -> x.part(0, 0, 2));
        }
    }

    private static InkRing drafted(int strokes) {
        InkRing x = new InkRing();
        Arena.draftOf(x, strokes);
        return x;
    }

    private static void cornersOfThePaper(Check check) {
        int[][] corners = {{0, 0}, {0, 99}, {99, 0}, {99, 99}};
        for (int[] from : corners) {
            for (int[] to : corners) {
                if (from != to) {
                    InkRing x = new InkRing();
                    check.due("a corner to another", 1, () -> x.stroke(from[0], from[1], to[0], to[1]));
                    x.sign();
                    Arena.draft(x, from[0], from[1], to[0], to[1]);
                    check.due("drawn as told", 10.0f, () -> x.part(0, 0, 0));
                }
            }
        }
        InkRing y = new InkRing();
        check.due("left of it", Check.WRONG, () -> y.stroke(-1, 0, 99, 99));
        check.due("right of it", Check.WRONG, () -> y.stroke(0, 0, 100, 99));
        check.due("above it", Check.WRONG, () -> y.stroke(0, -1, 99, 99));
        check.due("below it", Check.WRONG, () -> y.stroke(0, 0, 99, 100));
    }

    private static void placesNotTheSame(Check check) {
        int[] places = {0, 50, 99};
        for (int x : places) {
            for (int y : places) {
                int beside = x == 99 ? 98 : x + 1;
                int above = y == 99 ? 98 : y + 1;
                InkRing ring = new InkRing();
                check.due("the same", Check.WRONG, () -> ring.stroke(x, y, x, y));
                check.due("the next in x", 1, () -> ring.stroke(x, y, beside, y));
                check.due("the next in y", 2, () -> ring.stroke(x, y, x, above));
                check.due("the next in both", 3, () -> ring.stroke(x, y, beside, above));
            }
        }
    }

    private static void eightStrokes(Check check) {
        for (int k = 1; k <= 8; k++) {
            InkRing x = Arena.plain();
            x.duel(0, 1, 0, 0, 1, 0);
            Arena.draftOf(x, k);
            check.due("a writing of " + k, 1, () -> x.hand(0, 0));
        }
        InkRing x = Arena.plain();
        x.duel(0, 1, 0, 0, 1, 0);
        Arena.draftOf(x, 8);
        check.due("a ninth stroke", Check.NOT_NOW, () -> x.stroke(1, 2, 3, 4));
        check.due("a writing of none", Check.NO_SUCH, () -> x.marked(0, 0, false));
        x.clear();
        check.due("none is no writing", Check.NOT_NOW, () -> x.hand(0, 0));
    }

    private static void asLongAsBothHaveOne(Check check) {
        InkRing x = new InkRing();
        Arena.draftOf(x, 3);
        x.sign();
        check.due("stroke 0 of none", Check.NO_SUCH, () -> x.part(0, 0, 0));
        for (int drafted = 1; drafted <= 8; drafted++) {
            x.stroke(drafted - 1, 0, 50, 50);
            int both = Math.min(drafted, 3);
            for (int k = 0; k < both; k++) {
                int stroke = k;
                check.due("stroke " + k + " of " + drafted + " for 3", 10.0f, () -> x.part(0, stroke, 0));
            }
            check.due("stroke " + both + " of " + drafted + " for 3", Check.NO_SUCH, () -> x.part(0, both, 0));
        }
        x.style(0, 100, 0, 0);
        check.due("three of eight are marked", 10.0f, () -> x.mark(0, 0));
        x.clear();
        x.stroke(0, 0, 50, 50);
        check.due("stroke 1 of one, of eight before", Check.NO_SUCH, () -> x.part(0, 1, 0));
        check.due("one of one is marked", 10.0f / 3.0f, () -> x.mark(0, 0));
    }

    private static float nearnessTo(int x, int y, int endX, int endY, int... written) {
        InkRing ring = new InkRing();
        Arena.sign(ring, x, y, endX, endY);
        Arena.draft(ring, written);
        return ring.part(0, 0, 0);
    }

    private static void nearness(Check check) {
        check.due("0 apart", 10.0f, () -> nearnessTo(0, 0, 99, 99, 0, 0, 99, 99));
        check.due("1 apart", 9.9f, () -> nearnessTo(0, 0, 99, 99, 0, 0, 99, 98));
        check.due("10 apart", 9.0f, () -> nearnessTo(0, 0, 99, 99, 10, 0, 99, 99));
        check.due("50 apart", 5.0f, () -> nearnessTo(0, 0, 99, 99, 10, 10, 84, 84));
    }

    private static void differencesWithoutSigns(Check check) {
        check.due("all more", 9.0f, () -> nearnessTo(50, 50, 60, 60, 51, 52, 63, 64));
        check.due("all less", 9.0f, () -> nearnessTo(50, 50, 60, 60, 49, 48, 57, 56));
        check.due("more and less", 9.0f, () -> nearnessTo(50, 50, 60, 60, 51, 48, 63, 56));
        check.due("less and more", 9.0f, () -> nearnessTo(50, 50, 60, 60, 49, 52, 57, 64));
    }

    private static void nearnessAtLeast0(Check check) {
        check.due("99 apart", 10.0f - 9.9f, () -> nearnessTo(0, 0, 50, 50, 50, 49, 50, 50));
        check.due("100 apart", 0.0f, () -> nearnessTo(0, 0, 50, 50, 50, 49, 51, 50));
        check.due("101 apart", 0.0f, () -> nearnessTo(0, 0, 50, 50, 50, 49, 51, 51));
        check.due("396 apart, as far as can be", 0.0f, () -> nearnessTo(0, 0, 99, 99, 99, 99, 0, 0));
        check.due("396 apart on the dampest paper", 0.0, () -> nearnessAt(100, 0, 0, 99, 99, 99, 99, 0, 0));
    }

    private static void nearnessOnDampPaper(Check check) {
        int[] damps = {0, 1, 50, 99, 100};
        for (int damp : damps) {
            float due = 8.0f * (1.0f - damp / 200.0f);
            check.due("damp " + damp, (double) due, () -> nearnessAt(damp, 0, 0, 40, 20, 10, 0, 40, 10));
        }
        check.due("the dampest takes half", 5.0, () -> nearnessAt(100, 0, 0, 99, 99, 0, 0, 99, 99));
        InkRing x = new InkRing();
        Arena.sign(x, LEVEL);
        x.rise(0, 10);
        x.rise(1, 10);
        x.rise(2, 10);
        x.pass(10);
        x.buy(0, 2);
        x.style(0, 0, 100, 100);
        x.learn(0, 0);
        x.duel(0, 1, 0, 0, 1, 0);
        Arena.hand(x, 0, 0, 0, 90, 50, 90);
        check.due("nothing of slope and order", 20.0f, () -> x.marked(0, 0, false));
    }

    private static float slopeTo(int x, int y, int endX, int endY, int... written) {
        InkRing ring = new InkRing();
        Arena.sign(ring, x, y, endX, endY);
        Arena.draft(ring, written);
        return ring.part(0, 0, 1);
    }

    private static void slope(Check check) {
        check.due("the shortest for the shortest", 10.0f, () -> slopeTo(0, 0, 1, 0, 98, 99, 99, 99));
        check.due("the longest for the longest", 10.0f, () -> slopeTo(0, 0, 99, 99, 0, 0, 99, 99));
        check.due("the longest, both backwards", 10.0f, () -> slopeTo(99, 99, 0, 0, 99, 99, 0, 0));
        check.due("the shortest for the longest", 10.0f, () -> slopeTo(0, 0, 99, 0, 5, 5, 6, 5));
        check.due("the longest for the shortest", 10.0f, () -> slopeTo(5, 5, 5, 6, 0, 0, 0, 99));
        check.due("half way between", 5.0f, () -> slopeTo(0, 0, 1, 0, 0, 0, 1, 1));
        check.due("3, 4 for 1, 0", 9.0f / 25.0f / 1.0f * 10.0f, () -> slopeTo(0, 0, 1, 0, 0, 0, 3, 4));
    }

    private static void slopeAtLeast0(Check check) {
        float least = 1.0f / 9802.0f / 1.0f * 10.0f;
        check.due("just this side of across", least, () -> slopeTo(0, 0, 1, 0, 10, 0, 11, 99));
        check.due("across", 0.0f, () -> slopeTo(0, 0, 1, 0, 10, 0, 10, 99));
        check.due("just beyond across", 0.0f, () -> slopeTo(0, 0, 1, 0, 10, 0, 9, 99));
        check.due("back", 0.0f, () -> slopeTo(0, 0, 1, 0, 10, 0, 9, 0));
        check.due("back, the longest", 0.0f, () -> slopeTo(0, 0, 99, 99, 99, 99, 0, 0));
        InkRing x = new InkRing();
        Arena.sign(x, LEVEL);
        x.style(0, 0, 100, 0);
        Arena.draft(x, 50, 0, 0, 0);
        check.due("a mark by the slope of the way back", 0.0f, () -> x.mark(0, 0));
    }

    private static void order(Check check) {
        for (int strokes = 1; strokes <= 6; strokes++) {
            InkRing x = drafted(strokes);
            x.sign();
            for (int drafted = 1; drafted <= 8; drafted++) {
                x.stroke(1, 2, 3, 4);
                float due = drafted == strokes ? 10.0f : 0.0f;
                check.due(drafted + " for " + strokes, due, () -> x.part(0, 0, 2));
            }
        }
    }

    private static void weights(Check check) {
        InkRing x = new InkRing();
        Arena.sign(x, LEVEL);
        Arena.draft(x, 0, 10, 50, 10);
        int[][] weights = {
            {0, 0, 0}, {100, 0, 0}, {0, 100, 0}, {0, 0, 100}, {1, 0, 0}, {0, 1, 0}, {0, 0, 1}, {100, 100, 100}
        };
        float[] due = {0.0f, 8.0f, 10.0f, 10.0f, 0.08f, 0.1f, 0.1f, 28.0f};
        for (int k = 0; k < weights.length; k++) {
            x.style(0, weights[k][0], weights[k][1], weights[k][2]);
            check.due("weights, row " + k, due[k], () -> x.mark(0, 0));
        }
        Arena.draft(x, LEVEL);
        x.clear();
        Arena.draft(x, LEVEL);
        check.due("the greatest mark", 30.0f, () -> x.mark(0, 0));
    }

    private static void sumOfStrokesOfBoth(Check check) {
        InkRing x = new InkRing();
        Arena.draftOf(x, 4);
        x.sign();
        x.style(0, 100, 0, 0);
        float[] due = {0.0f, 2.5f, 5.0f, 7.5f, 10.0f, 10.0f, 10.0f, 10.0f, 10.0f};
        for (int k = 0; k < due.length; k++) {
            check.due(k + " strokes for 4", due[k], () -> x.mark(0, 0));
            if (k < 8) {
                x.stroke(k, 0, 50, 50);
            }
        }
    }

    private static void dividedByTheSigns(Check check) {
        for (int strokes = 1; strokes <= 6; strokes++) {
            InkRing x = drafted(strokes);
            x.sign();
            x.style(0, 100, 0, 0);
            x.stroke(0, 0, 50, 50);
            check.due("one for " + strokes, 10.0f / (float) strokes, () -> x.mark(0, 0));
        }
        InkRing x = drafted(1);
        x.sign();
        x.style(0, 100, 0, 0);
        Arena.draftOf(x, 8);
        check.due("eight for one", 10.0f, () -> x.mark(0, 0));
    }

    private static void greatestByAJudge(Check check) {
        for (int best = 0; best < 4; best++) {
            InkRing x = fourStylesByOrder();
            for (int k = 0; k < 4; k++) {
                x.style(k, 0, 0, k == best ? 100 : 10 * k);
                x.learn(0, k);
            }
            x.duel(0, 1, 0, 0, 1, 0);
            Arena.hand(x, 0, 0, LEVEL);
            check.due("the style " + best + " is the best", 10.0f, () -> x.marked(0, 0, false));
        }
        InkRing x = fourStylesByOrder();
        x.learn(0, 1);
        x.learn(1, 3);
        x.duel(0, 1, 0, 0, 1, 0);
        Arena.hand(x, 0, 0, LEVEL);
        check.due("the greater ones that this judge doesn't know", 2.0f, () -> x.marked(0, 0, false));
    }

    private static void withoutAnyStyle(Check check) {
        InkRing x = fourStylesByOrder();
        x.learn(1, 3);
        x.duel(0, 1, 0, 0, 1, 0);
        Arena.hand(x, 0, 0, LEVEL);
        Arena.hand(x, 0, 0, 99, 99, 0, 0);
        check.due("mark of one", 0.0f, () -> x.marked(0, 0, false));
        check.due("mark of other", 0.0f, () -> x.marked(0, 0, true));
        check.due("the round is nobody's", 0, () -> x.of(0, 1) + x.of(0, 2));
        check.due("nobody wins", -1, () -> x.of(0, 3));
    }

    // ---- paper, judges

    private static void daysFrom0(Check check) {
        InkRing x = Arena.plain();
        x.duel(0, 1, 0, 0, 1, 0);
        check.due("the first day", 0, () -> x.of(0, 4));
        check.due("the next day", 1, () -> x.pass(1));
        x.duel(0, 1, 0, 0, 1, 0);
        check.due("the day of a duel then", 1, () -> x.of(1, 4));
    }

    private static void papers(Check check) {
        for (int k = 0; k < 3; k++) {
            InkRing x = new InkRing();
            int paper = k;
            check.due("buy of paper " + k, 5, () -> x.buy(paper, 5));
            check.due("rise of paper " + k, 0, () -> x.rise(paper, 5));
            x.pass(2);
            for (int other = 0; other < 3; other++) {
                int asked = other;
                check.due(k + " was bought: " + other, asked == paper ? 5 : 0, () -> x.paper(asked, 0));
                check.due(k + " is damp: " + other, asked == paper ? 10 : 0, () -> x.paper(asked, 1));
            }
        }
        InkRing x = new InkRing();
        check.due("paper -1", Check.NO_SUCH, () -> x.paper(-1, 0));
        check.due("paper 3", Check.NO_SUCH, () -> x.paper(3, 0));
    }

    private static void noSheetsAtFirst(Check check) {
        for (int k = 0; k < 3; k++) {
            InkRing x = new InkRing();
            int paper = k;
            Arena.sign(x, LEVEL);
            x.duel(0, 1, 0, paper, 1, 0);
            check.due("sheets of " + k, 0, () -> x.paper(paper, 0));
            check.due("hand on paper " + k, Check.NOT_NOW, () -> Arena.hand(x, 0, 0, LEVEL));
            check.due("the first sheet of " + k, 1, () -> x.buy(paper, 1));
            check.due("hand on the first sheet of " + k, 1, () -> x.hand(0, 0));
            check.due("sheets then of " + k, 0, () -> x.paper(paper, 0));
        }
    }

    private static void noDampAtFirst(Check check) {
        for (int k = 0; k < 3; k++) {
            InkRing x = new InkRing();
            int paper = k;
            check.due("damp of " + k, 0, () -> x.paper(paper, 1));
            check.due("told by rise of " + k, 0, () -> x.rise(paper, 10));
            x.pass(1);
            check.due("damp of " + k + " after a day", 10, () -> x.paper(paper, 1));
            x.pass(9);
            check.due("damp of " + k + " after ten days", 100, () -> x.paper(paper, 1));
        }
    }

    private static void dampByDays(Check check) {
        InkRing x = new InkRing();
        x.rise(0, 7);
        x.rise(1, 1);
        x.rise(2, 2);
        check.due("no day passed", 0, () -> x.paper(0, 1));
        x.pass(1);
        check.due("one day", 7, () -> x.paper(0, 1));
        x.pass(3);
        check.due("four days", 28, () -> x.paper(0, 1));
        x.rise(0, -5);
        check.due("told, no day passed", 28, () -> x.paper(0, 1));
        x.pass(2);
        check.due("two days less", 18, () -> x.paper(0, 1));
        check.due("another one by its own", 6, () -> x.paper(1, 1));
        check.due("the third by its own", 12, () -> x.paper(2, 1));
    }

    private static void leastAndGreatestRise(Check check) {
        InkRing x = new InkRing();
        x.rise(0, 10);
        check.due("a rise of 11", Check.WRONG, () -> x.rise(0, 11));
        x.pass(5);
        check.due("five days of 10", 50, () -> x.paper(0, 1));
        x.rise(0, -10);
        check.due("a rise of -11", Check.WRONG, () -> x.rise(0, -11));
        x.pass(2);
        check.due("two days of -10", 30, () -> x.paper(0, 1));
    }

    private static void noRiseAtFirst(Check check) {
        InkRing x = new InkRing();
        x.pass(100);
        for (int k = 0; k < 3; k++) {
            int paper = k;
            check.due("damp of " + k + " after a hundred days", 0, () -> x.paper(paper, 1));
        }
        x.rise(1, 3);
        x.pass(1);
        x.rise(1, 0);
        x.pass(100);
        check.due("a rise of 0 told", 3, () -> x.paper(1, 1));
    }

    private static InkRing damp(int damp) {
        InkRing x = new InkRing();
        x.rise(0, damp / 10);
        x.pass(10);
        x.rise(0, damp % 10);
        x.pass(1);
        x.rise(0, 0);
        return x;
    }

    private static int dampAfter(InkRing x, int rise, int days) {
        x.rise(0, rise);
        x.pass(days);
        return x.paper(0, 1);
    }

    private static void dampHeldAt100(Check check) {
        check.due("98 and 1", 99, () -> dampAfter(damp(98), 1, 1));
        check.due("99 and 1", 100, () -> dampAfter(damp(99), 1, 1));
        check.due("99 and 2", 100, () -> dampAfter(damp(99), 2, 1));
        check.due("100 and 1", 100, () -> dampAfter(damp(100), 1, 1));
        check.due("90 and 10", 100, () -> dampAfter(damp(90), 10, 1));
        check.due("91 and 10", 100, () -> dampAfter(damp(91), 10, 1));
        check.due("a hundred days of 10", 100, () -> dampAfter(damp(0), 10, 100));
        InkRing x = damp(99);
        check.due("beyond 100", 100, () -> dampAfter(x, 10, 1));
        check.due("and from 100 back", 99, () -> dampAfter(x, -1, 1));
    }

    private static void dampHeldAt0(Check check) {
        check.due("2 less 1", 1, () -> dampAfter(damp(2), -1, 1));
        check.due("1 less 1", 0, () -> dampAfter(damp(1), -1, 1));
        check.due("1 less 2", 0, () -> dampAfter(damp(1), -2, 1));
        check.due("0 less 1", 0, () -> dampAfter(damp(0), -1, 1));
        check.due("10 less 10", 0, () -> dampAfter(damp(10), -10, 1));
        check.due("9 less 10", 0, () -> dampAfter(damp(9), -10, 1));
        check.due("100 less a hundred days of 10", 0, () -> dampAfter(damp(100), -10, 100));
        InkRing x = damp(1);
        check.due("beyond 0", 0, () -> dampAfter(x, -10, 1));
        check.due("and from 0 up", 1, () -> dampAfter(x, 1, 1));
    }

    /** Held on each day: what is beyond the bound on the way is not made up for later. */
    private static void dampHeldOnTheWay(Check check) {
        InkRing x = damp(95);
        check.due("three days beyond 100", 100, () -> dampAfter(x, 10, 3));
        check.due("then two days back", 80, () -> dampAfter(x, -10, 2));
        check.due("then a hundred days back", 0, () -> dampAfter(x, -3, 100));
        check.due("then seven days up", 70, () -> dampAfter(x, 10, 7));
        InkRing y = damp(95);
        check.due("a day at a time", 100, () -> dampAfter(y, 10, 1));
        check.due("and another", 100, () -> dampAfter(y, 10, 1));
        check.due("the next day back", 90, () -> dampAfter(y, -10, 1));
    }

    private static void judgesAndStyles(Check check) {
        InkRing x = new InkRing();
        for (int k = 0; k < 16; k++) {
            int judge = k / 4;
            int style = k % 4;
            check.due("judge " + judge + ", style " + style, style + 1, () -> x.learn(judge, style));
        }
        for (int bad : new int[] {-1, 4}) {
            check.due("judge " + bad, Check.NO_SUCH, () -> x.learn(bad, 0));
            check.due("style " + bad, Check.NO_SUCH, () -> x.learn(0, bad));
        }
    }

    private static void noWeightsAtFirst(Check check) {
        InkRing x = new InkRing();
        Arena.sign(x, LEVEL);
        x.buy(0, 1);
        for (int k = 0; k < 4; k++) {
            x.learn(0, k);
        }
        x.duel(0, 1, 0, 0, 1, 0);
        Arena.draft(x, LEVEL);
        for (int k = 0; k < 4; k++) {
            int style = k;
            check.due("mark by style " + k, 0.0f, () -> x.mark(0, style));
        }
        x.hand(0, 0);
        check.due("marked by all four", 0.0f, () -> x.marked(0, 0, false));
    }

    private static void knownFromThatDayOn(Check check) {
        InkRing x = fourStylesByOrder();
        x.duel(0, 1, 0, 0, 1, 0);
        x.pass(1);
        x.learn(0, 3);
        x.duel(0, 1, 0, 0, 1, 0);
        x.pass(1);
        x.duel(0, 1, 0, 0, 1, 0);
        for (int k = 0; k < 49; k++) {
            x.pass(100);
        }
        x.pass(98);
        x.duel(0, 1, 0, 0, 1, 0);
        for (int k = 0; k < 4; k++) {
            Arena.hand(x, k, 0, LEVEL);
        }
        check.due("the day before", 0.0f, () -> x.marked(0, 0, false));
        check.due("that day", 4.0f, () -> x.marked(1, 0, false));
        check.due("the day after", 4.0f, () -> x.marked(2, 0, false));
        check.due("the last day", 4.0f, () -> x.marked(3, 0, false));
    }

    private static void allOfThatDay(Check check) {
        InkRing x = fourStylesByOrder();
        x.duel(0, 1, 0, 0, 1, 0);
        Arena.hand(x, 0, 0, LEVEL);
        Arena.hand(x, 0, 0, 50, 0, 0, 0, 1, 1, 2, 2);
        check.due("before it is learned", 0.0f, () -> x.marked(0, 0, false));
        x.learn(0, 2);
        check.due("learned behind the end of the duel, that day", 3.0f, () -> x.marked(0, 0, false));
        check.due("so the round goes to one", 1, () -> x.of(0, 1));
        for (int k = 0; k < 50; k++) {
            x.pass(100);
        }
        x.learn(0, 3);
        x.duel(0, 1, 0, 0, 1, 0);
        x.learn(0, 1);
        Arena.hand(x, 1, 0, LEVEL);
        check.due("the last day, both of it", 4.0f, () -> x.marked(1, 0, false));
        check.due("the first day as before", 3.0f, () -> x.marked(0, 0, false));
    }
}
