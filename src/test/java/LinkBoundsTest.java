/** Terms, "THE LINK", and promises 9, 10, 11 and 18: no piece, the last one, and the one too many. */
final class LinkBoundsTest {
    private static final int BAD = MovingGuest.BAD;
    private static final int FULL = MovingGuest.FULL;
    private static final int LEAST = Integer.MIN_VALUE;
    private static final int GREATEST = Integer.MAX_VALUE;

    public static void main(String[] args) {
        emptyLink();
        noSuchPiece();
        theLastPiece();
        pageForAFullLink();
        stateForAFullLink();
        seenOnAFullLink();
        takenOnAFullLink();
        twiceUntilFull();
        twiceOfNoneOnAFullLink();
        twiceComesLast();
        oldestFirst();
        whatOfAPiece();
        pageAndSerialOf0();
        numberOfItsMove();
        withoutAMove();
        Check.end();
    }

    private static MovingGuest sent(int n) {
        MovingGuest x = Guests.on0(3, 4);
        Check.due("move", x.move(), 1);
        Guests.sends(x, n);
        return x;
    }

    private static void pagesAre(MovingGuest x, int... due) {
        Check.due("pieces", x.told(6), due.length);
        for (int k = 0; k < due.length; k++) {
            Check.due("page of piece " + k, x.piece(k, 2), due[k]);
        }
    }

    private static void hasNot(MovingGuest x, int... ks) {
        Check.unchanged(x, () -> {
            for (int k : ks) {
                Check.due("deliver(" + k + ")", x.deliver(k), BAD);
                Check.due("lose(" + k + ")", x.lose(k), BAD);
                Check.due("twice(" + k + ")", x.twice(k), BAD);
                Check.due("piece(" + k + ", 0)", x.piece(k, 0), BAD);
                Check.due("piece(" + k + ", 3)", x.piece(k, 3), BAD);
            }
        });
    }

    private static void emptyLink() {
        Check.sentence("BAD when there is none such: the link is empty");
        hasNot(new MovingGuest(), 0, -1, 1, 7, 8, LEAST, GREATEST);
        MovingGuest x = sent(1);
        Check.due("lose the only one", x.lose(0), 1);
        hasNot(x, 0, -1, 1);
    }

    private static void noSuchPiece() {
        Check.sentence("BAD when there is none such: the first behind the last");
        for (int n : new int[] {1, 2, 7}) {
            hasNot(sent(n), n, n + 1, -1, 8, LEAST, GREATEST);
        }
        hasNot(sent(8), 8, 9, -1, LEAST, GREATEST);
    }

    private static void theLastPiece() {
        Check.sentence("piece k: the last one is there");
        for (int n : new int[] {1, 2, 7, 8}) {
            Check.due("piece", sent(n).piece(n - 1, 2), n - 1);
            Check.due("deliver", sent(n).deliver(n - 1), 1);
            Check.due("lose", sent(n).lose(n - 1), 1);
            Check.due("twice", sent(n).twice(n - 1), n == 8 ? FULL : n + 1);
        }
    }

    private static void pageForAFullLink() {
        Check.sentence("one that comes to it when it has 8 is lost: PAGE");
        MovingGuest x = sent(7);
        Check.due("an eighth", x.step(), 1);
        pagesAre(x, 0, 1, 2, 3, 4, 5, 6, 7);
        Check.due("due again", x.step(), 3);
        Check.due("a ninth is sent", x.step(), 1);
        pagesAre(x, 0, 1, 2, 3, 4, 5, 6, 7);
        Check.due("the old piece 0", x.piece(0, 3), 1);
        Check.due("the old piece 7", x.piece(7, 3), 8);
        Check.due("lose", x.lose(7), 1);
        Check.due("room for the tenth", x.step(), 1);
        pagesAre(x, 0, 1, 2, 3, 4, 5, 6, 1);
        Check.due("its serial", x.piece(7, 3), 10);
    }

    /** All pages are known, and the link has n times SEEN of page 7. */
    private static MovingGuest knownWith(int n) {
        MovingGuest x = sent(0);
        Guests.pages(x, 7);
        Check.due("step", x.step(), 1);
        Check.due("deliver PAGE", x.deliver(0), 1);
        for (int i = 1; i <= Math.min(n, 7); i++) {
            Check.due("twice", x.twice(0), i + 1);
        }
        Check.due("deliver SEEN", x.deliver(0), 3);
        if (n == 8) {
            Check.due("twice", x.twice(0), 8);
        }
        Check.due("not known", x.told(5), 0);
        Check.due("pieces", x.told(6), n);
        return x;
    }

    private static void stateForAFullLink() {
        Check.sentence("one that comes to it when it has 8 is lost: STATE");
        MovingGuest x = knownWith(8);
        Check.due("the state is sent", x.step(), 2);
        Check.due("pieces", x.told(6), 8);
        for (int k = 0; k < 8; k++) {
            Check.due("SEEN as before", x.piece(k, 0), 3);
        }
        Check.due("lose", x.lose(0), 3);
        Check.due("the state again", x.step(), 2);
        Check.due("STATE is there", x.piece(7, 0), 2);
        x = knownWith(7);
        Check.due("the state is sent", x.step(), 2);
        Check.due("STATE is the eighth", x.piece(7, 0), 2);
    }

    private static void seenOnAFullLink() {
        Check.sentence("piece k leaves the link and arrives: SEEN finds room where 8 were");
        MovingGuest x = sent(8);
        Check.due("deliver", x.deliver(7), 1);
        pagesAre(x, 0, 1, 2, 3, 4, 5, 6, 7);
        Check.due("SEEN", x.piece(7, 0), 3);
        Check.due("deliver", x.deliver(0), 1);
        pagesAre(x, 1, 2, 3, 4, 5, 6, 7, 0);
        Check.due("SEEN of 7", x.piece(6, 0), 3);
        Check.due("SEEN of 0", x.piece(7, 0), 3);
    }

    private static void takenOnAFullLink() {
        Check.sentence("piece k leaves the link and arrives: TAKEN finds room where 8 were");
        MovingGuest x = knownWith(7);
        Check.due("step", x.step(), 2);
        Check.due("pieces", x.told(6), 8);
        Check.due("deliver STATE", x.deliver(7), 2);
        Check.due("pieces", x.told(6), 8);
        Check.due("TAKEN", x.piece(7, 0), 4);
        Check.due("hand-over", x.deliver(7), 4);
        Check.due("holder", x.holder(), 1);
        Check.due("pieces", x.told(6), 7);
    }

    private static void twiceUntilFull() {
        Check.sentence("twice: how many there are; FULL");
        MovingGuest x = sent(1);
        for (int n = 2; n <= 8; n++) {
            Check.due("twice", x.twice(0), n);
        }
        Check.unchanged(x, () -> {
            for (int k = 0; k < 8; k++) {
                Check.due("twice(" + k + ") with 8", x.twice(k), FULL);
            }
        });
        Check.due("lose", x.lose(3), 1);
        Check.due("twice with 7", x.twice(6), 8);
        Check.due("twice with 8", x.twice(7), FULL);
    }

    private static void twiceOfNoneOnAFullLink() {
        Check.sentence("twice: BAD; FULL (none such, with 8)");
        MovingGuest x = sent(8);
        Check.due("twice(8)", x.twice(8), BAD);
        Check.due("twice(-1)", x.twice(-1), BAD);
        Check.due("twice(7)", x.twice(7), FULL);
    }

    private static void twiceComesLast() {
        Check.sentence("piece k comes to the link once more");
        MovingGuest x = sent(3);
        Check.due("twice(1)", x.twice(1), 4);
        pagesAre(x, 0, 1, 2, 1);
        Check.due("its serial", x.piece(3, 3), 2);
        Check.due("its kind", x.piece(3, 0), 1);
        Check.due("its move", x.piece(3, 1), 1);
        Check.due("lose the first of them", x.lose(1), 1);
        Check.due("deliver the other", x.deliver(2), 1);
        pagesAre(x, 0, 2, 1);
        Check.due("its SEEN", x.piece(2, 0), 3);
    }

    private static void oldestFirst() {
        Check.sentence("at most 8 PIECES, the oldest first (0 is the oldest)");
        MovingGuest x = sent(8);
        Check.due("lose the oldest", x.lose(0), 1);
        pagesAre(x, 1, 2, 3, 4, 5, 6, 7);
        Check.due("lose the latest", x.lose(6), 1);
        pagesAre(x, 1, 2, 3, 4, 5, 6);
        Check.due("lose one between", x.lose(2), 1);
        pagesAre(x, 1, 2, 4, 5, 6);
        Check.due("deliver one between", x.deliver(3), 1);
        pagesAre(x, 1, 2, 4, 6, 5);
        Check.due("SEEN comes last", x.piece(4, 0), 3);
        Check.due("deliver the latest", x.deliver(4), 3);
        pagesAre(x, 1, 2, 4, 6);
        Check.due("nothing of a lost one arrived", x.memory(1, 1), 0);
    }

    private static void whatOfAPiece() {
        Check.sentence("piece: BAD for another what");
        MovingGuest x = sent(3);
        Check.due("what it is", x.piece(2, 0), 1);
        Check.due("its serial", x.piece(2, 3), 3);
        for (int what : new int[] {-1, 4, 5, LEAST, GREATEST}) {
            Check.due("piece(2, " + what + ")", x.piece(2, what), BAD);
            Check.due("piece(3, " + what + "), none such", x.piece(3, what), BAD);
        }
    }

    private static void pageAndSerialOf0() {
        Check.sentence("its page (0 for STATE and TAKEN), its serial (0 likewise)");
        MovingGuest x = knownWith(1);
        Check.due("step", x.step(), 2);
        Check.due("SEEN has a page", x.piece(0, 2), 7);
        Check.due("SEEN has a serial", x.piece(0, 3), 8);
        Check.due("page of STATE", x.piece(1, 2), 0);
        Check.due("serial of STATE", x.piece(1, 3), 0);
        Check.due("deliver STATE", x.deliver(1), 2);
        Check.due("TAKEN", x.piece(1, 0), 4);
        Check.due("page of TAKEN", x.piece(1, 2), 0);
        Check.due("serial of TAKEN", x.piece(1, 3), 0);
    }

    private static void numberOfItsMove() {
        Check.sentence("all pieces have the number of their move");
        MovingGuest x = sent(2);
        Check.due("deliver", x.deliver(0), 1);
        Check.due("abort", x.abort(), true);
        Guests.movePages(x);
        Check.due("PAGE of move 1", x.piece(0, 1), 1);
        Check.due("SEEN of move 1", x.piece(1, 1), 1);
        Check.due("step", x.step(), 2);
        Check.due("STATE of move 2", x.piece(2, 1), 2);
        Check.due("deliver", x.deliver(2), 2);
        Check.due("TAKEN of move 2", x.piece(2, 1), 2);
        Check.due("twice", x.twice(0), 4);
        Check.due("PAGE of move 1 once more", x.piece(3, 1), 1);
    }

    private static void withoutAMove() {
        Check.sentence("deliver, lose and twice need no move");
        MovingGuest x = sent(3);
        Check.due("abort", x.abort(), true);
        pagesAre(x, 0, 1, 2);
        Check.due("twice", x.twice(2), 4);
        Check.due("lose", x.lose(0), 1);
        Check.due("deliver", x.deliver(0), 1);
        pagesAre(x, 2, 2);
        Check.due("crash", x.crash(0), true);
        Check.due("crash", x.crash(1), true);
        pagesAre(x, 2, 2);
        Check.due("deliver", x.deliver(1), 1);
        pagesAre(x, 2);
    }
}
