/**
 * Two arenas alike, of which one takes a call: what it changed shows in all that comes behind it. An
 * arena that is made for this has had at most 200 calls, for the transcript makes 303 of its 512.
 */
final class Twins {
    interface RingCall {
        Object on(InkRing ring);
    }

    /** A call with one number that is at the end of its range, or beyond it. */
    interface NumberedCall {
        Object on(InkRing ring, int number);
    }

    interface Making {
        InkRing make();
    }

    private Twins() {
    }

    /** The call throws what is due, and changes nothing. */
    static void refused(Check check, String what, String want, Making making, RingCall call) {
        InkRing ring = making.make();
        check.due(what, want, () -> call.on(ring));
        check.same("what comes behind " + what, transcript(making.make()), transcript(ring));
    }

    /** The call is answered as is due, and changes nothing. */
    static void asked(Check check, String what, Object want, Making making, RingCall call) {
        refused(check, what, String.valueOf(want), making, call);
    }

    /** Refused just below the least and just above the greatest, and far off. */
    static void refusedBeyond(
            Check check, String what, String want, int least, int most, Making making, NumberedCall call) {
        for (int bad : new int[] {least - 1, most + 1, Integer.MIN_VALUE, Integer.MAX_VALUE}) {
            refused(check, what + " " + bad, want, making, ring -> call.on(ring, bad));
        }
    }

    static RingCall style(int style, int nearness, int slope, int order) {
        return ring -> {
            ring.style(style, nearness, slope, order);
            return Check.NOTHING;
        };
    }

    /** Three signs, three duels (over, begun, without a sheet for it), forged seals, a draft of two. */
    static InkRing midway() {
        InkRing x = new InkRing();
        Arena.sign(x, 0, 0, 50, 0);
        Arena.sign(x, 0, 0, 50, 50, 10, 90, 10, 20);
        Arena.sign(x, 99, 0, 0, 99, 1, 2, 3, 4, 50, 50, 60, 70);
        x.style(0, 100, 20, 0);
        x.style(1, 5, 60, 70);
        x.style(3, 10, 20, 30);
        x.learn(0, 0);
        x.learn(1, 1);
        x.rise(0, 3);
        x.rise(1, -2);
        x.buy(0, 30);
        x.duel(0, 1, 0, 0, 1, 7);
        x.pass(2);
        x.learn(0, 1);
        x.duel(2, 1, 1, 0, 3, 8);
        x.duel(1, 0, 1, 1, 2, 5);
        Arena.handOff(x, 0, Arena.forged(0, 1), 3);
        Arena.handOff(x, 0, Arena.seal(1, 2), 60);
        Arena.handOff(x, 1, Arena.seal(2, 3), 5);
        Arena.handOff(x, 1, Arena.forged(1, 4), 1);
        Arena.handOff(x, 1, Arena.forged(2, 5), 8);
        Arena.draft(x, 0, 0, 50, 2, 10, 80, 11, 20);
        return x;
    }

    /** All signs, all duels, the most sheets, the last day, a full draft. */
    static InkRing full() {
        InkRing x = new InkRing();
        for (int k = 0; k < 6; k++) {
            Arena.sign(x, k, 0, 50, k);
        }
        for (int k = 0; k < 12; k++) {
            x.duel(k % 8, (k + 1) % 8, k % 4, 0, 1, k);
        }
        for (int k = 0; k < 10; k++) {
            x.buy(0, 100);
        }
        for (int k = 0; k < 50; k++) {
            x.pass(100);
        }
        x.learn(0, 0);
        Arena.draftOf(x, 8);
        return x;
    }

    /** Everything that can be asked, then what shows the hidden state only by being done. */
    static String transcript(InkRing x) {
        StringBuilder all = new StringBuilder();
        all.append(questions(x));
        put(all, x::clear);
        put(all, () -> x.stroke(9, 8, 7, 6));
        put(all, () -> x.pass(1));
        for (int k = 0; k < 16; k++) {
            int number = k;
            put(all, () -> x.learn(number / 4, number % 4));
        }
        for (int k = 0; k < 3; k++) {
            int paper = k;
            put(all, () -> x.paper(paper, 1));
            put(all, () -> x.buy(paper, 20));
        }
        put(all, x::sign);
        put(all, () -> x.duel(5, 6, 1, 2, 1, 3));
        for (int k = 0; k < 18; k++) {
            int duel = k % 3;
            put(all, () -> Arena.handOff(x, duel, 500, duel));
        }
        looked(x, all);
        put(all, () -> x.appeal(0, 1));
        put(all, () -> x.appeal(1, 0));
        all.append(questions(x));
        return all.toString();
    }

    /** What can be asked of the first three signs and duels, and of all writers and papers. */
    static String questions(InkRing x) {
        StringBuilder all = new StringBuilder();
        for (int k = 0; k < 8; k++) {
            int writer = k;
            put(all, () -> x.won(writer));
        }
        for (int k = 0; k < 12; k++) {
            int sign = k / 4;
            int style = k % 4;
            put(all, () -> x.mark(sign, style));
            put(all, () -> x.part(sign, style / 2, style % 3));
        }
        for (int k = 0; k < 18; k++) {
            int duel = k / 6;
            int what = k % 6;
            put(all, () -> x.of(duel, what));
            put(all, () -> x.marked(duel, what / 2, what % 2 == 1));
            put(all, () -> x.prompt(duel, what));
        }
        for (int k = 0; k < 3; k++) {
            int paper = k;
            put(all, () -> x.paper(paper, 0));
            put(all, () -> x.paper(paper, 1));
        }
        return all.toString();
    }

    private static void looked(InkRing x, StringBuilder all) {
        for (int k = 0; k < 18; k++) {
            int duel = k / 6;
            int writing = k % 6;
            put(all, () -> x.look(duel, writing / 2, writing % 2 == 1));
            put(all, () -> x.of(duel, 1) + 10 * x.of(duel, 2));
        }
    }

    private static void put(StringBuilder all, Check.Call call) {
        all.append(Check.answer(call)).append(' ');
    }
}
