/** What many tests do to an arena before they look at it. */
final class Arena {
    private Arena() {
    }

    /** Puts strokes behind the draft: four numbers each. */
    static void draft(InkRing ring, int... places) {
        for (int k = 0; k + 3 < places.length; k += 4) {
            ring.stroke(places[k], places[k + 1], places[k + 2], places[k + 3]);
        }
    }

    static int sign(InkRing ring, int... places) {
        draft(ring, places);
        return ring.sign();
    }

    static int hand(InkRing ring, int duel, int seal, int... places) {
        draft(ring, places);
        return ring.hand(duel, seal);
    }

    /** A draft of so many strokes. */
    static void draftOf(InkRing ring, int strokes) {
        for (int k = 0; k < strokes; k++) {
            ring.stroke(k, 0, 50, 50);
        }
    }

    static int seal(int writer, int sheet) {
        return (101 * writer + 37 * sheet) % 1000;
    }

    static int forged(int writer, int sheet) {
        return (seal(writer, sheet) + 1) % 1000;
    }

    /** One sign of one level stroke, style 0 by nearness alone, known to judge 0, and sheets of paper 0. */
    static InkRing plain() {
        InkRing ring = new InkRing();
        sign(ring, 0, 0, 50, 0);
        ring.style(0, 100, 0, 0);
        ring.learn(0, 0);
        ring.buy(0, 100);
        return ring;
    }

    /** Hands in for who is next, with the stroke of the plain sign pushed aside by so much. */
    static int handOff(InkRing ring, int duel, int seal, int off) {
        return hand(ring, duel, seal, 0, off, 50, off);
    }
}
