/** Promises 9, 10, 11 and 18, as far as the link goes: deliver, lose, twice and piece. */
final class LinkTest {
    private static final int BAD = MovingGuest.BAD;
    private static final int FULL = MovingGuest.FULL;

    public static void main(String[] args) {
        noSuchPiece();
        pieceTells();
        deliverTakesOne();
        loseTakesOne();
        twiceFills();
        twiceIsTheSamePiece();
        Check.end();
    }

    /** Pages 0 .. n - 1 are on the link. */
    private static MovingGuest sent(int n) {
        MovingGuest x = Guests.on0(3, 4);
        Check.due("move", x.move(), 1);
        for (int i = 0; i < n; i++) {
            Check.due("step", x.step(), 1);
        }
        return x;
    }

    private static void pagesAre(MovingGuest x, int... due) {
        Check.due("pieces", x.told(6), due.length);
        for (int k = 0; k < due.length; k++) {
            Check.due("page of piece " + k, x.piece(k, 2), due[k]);
        }
    }

    private static void noSuchPiece() {
        MovingGuest x = sent(2);
        int[] wrong = {-1, 2, 8, Integer.MIN_VALUE, Integer.MAX_VALUE};
        for (int k : wrong) {
            Check.due("deliver", x.deliver(k), BAD);
            Check.due("lose", x.lose(k), BAD);
            Check.due("twice", x.twice(k), BAD);
            Check.due("piece", x.piece(k, 0), BAD);
        }
        Check.due("piece(0, -1)", x.piece(0, -1), BAD);
        Check.due("piece(0, 4)", x.piece(0, 4), BAD);
        pagesAre(x, 0, 1);
        x = sent(8);
        Check.due("twice of none with a full link", x.twice(8), BAD);
        Check.due("deliver(8)", x.deliver(8), BAD);
    }

    private static void pieceTells() {
        MovingGuest x = sent(2);
        Check.due("kind", x.piece(1, 0), 1);
        Check.due("move", x.piece(1, 1), 1);
        Check.due("page", x.piece(1, 2), 1);
        Check.due("serial", x.piece(1, 3), 2);
        Check.due("deliver", x.deliver(1), 1);
        Check.due("SEEN", x.piece(1, 0), 3);
        Check.due("its move", x.piece(1, 1), 1);
        Check.due("its page", x.piece(1, 2), 1);
        Check.due("its serial", x.piece(1, 3), 2);
        x = Guests.on0();
        Guests.makeReady(x);
        Check.due("TAKEN", x.piece(0, 0), 4);
        Check.due("its move", x.piece(0, 1), 1);
        Check.due("its page", x.piece(0, 2), 0);
        Check.due("its serial", x.piece(0, 3), 0);
    }

    private static void deliverTakesOne() {
        MovingGuest x = sent(3);
        Check.due("deliver", x.deliver(1), 1);
        pagesAre(x, 0, 2, 1);
        Check.due("SEEN is the latest", x.piece(2, 0), 3);
        Check.due("deliver", x.deliver(2), 3);
        pagesAre(x, 0, 2);
        x = sent(8);
        Check.due("deliver", x.deliver(0), 1);
        pagesAre(x, 1, 2, 3, 4, 5, 6, 7, 0);
        Check.due("SEEN has the room of its PAGE", x.piece(7, 0), 3);
    }

    private static void loseTakesOne() {
        MovingGuest x = sent(3);
        Check.due("lose", x.lose(1), 1);
        pagesAre(x, 0, 2);
        Check.due("nothing arrived", x.memory(1, 0), 0);
        Check.due("lose", x.lose(1), 1);
        pagesAre(x, 0);
        Check.due("deliver", x.deliver(0), 1);
        Check.due("lose SEEN", x.lose(0), 3);
        pagesAre(x);
        Check.due("no page is known", x.told(5), 8);
        x = Guests.on0();
        Guests.makeReady(x);
        Check.due("lose TAKEN", x.lose(0), 4);
        Check.due("no hand-over", x.holder(), 0);
        Check.due("step", x.step(), 2);
        Check.due("lose STATE", x.lose(0), 2);
    }

    private static void twiceFills() {
        MovingGuest x = sent(2);
        Check.due("twice", x.twice(1), 3);
        pagesAre(x, 0, 1, 1);
        for (int n = 4; n <= 8; n++) {
            Check.due("twice", x.twice(0), n);
        }
        Check.due("twice with a full link", x.twice(0), FULL);
        pagesAre(x, 0, 1, 1, 0, 0, 0, 0, 0);
    }

    private static void twiceIsTheSamePiece() {
        MovingGuest x = sent(1);
        Check.due("twice", x.twice(0), 2);
        for (int what = 0; what < 4; what++) {
            Check.due("piece 1", x.piece(1, what), x.piece(0, what));
        }
        Check.due("lose", x.lose(0), 1);
        Check.due("deliver the second", x.deliver(0), 1);
        Check.due("its words", x.memory(1, 1), 4);
        Check.due("deliver its SEEN", x.deliver(0), 3);
        Check.due("known", x.told(5), 7);
    }
}
