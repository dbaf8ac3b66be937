/** Terms, "A PIECE ARRIVES" and "THE HAND-OVER": the piece that fits, and the one that does not. */
final class ArrivalBoundsTest {
    private static final int NO = MovingGuest.NO;

    public static void main(String[] args) {
        pageWithTheNextSerial();
        pageWithTheSameSerial();
        pageWithAnOldSerial();
        pageForAHostNotUp();
        pageForAHostThatIsBack();
        pageOfAnEndedMove();
        pageOfAnotherMove();
        piecesOfTheMoveThere();
        pageForAReadyTarget();
        seenOfThisSerial();
        seenOfAnotherSerial();
        seenOfAPageThatIsDue();
        seenOfAnEndedMove();
        seenOfAnotherMove();
        seenWithoutTarget();
        stateForATargetNotReady();
        stateForAReadyTarget();
        stateForAHostNotUp();
        stateOfAnEndedMove();
        stateOfAnotherMove();
        takenOfAReadyTarget();
        takenOfATargetNotReady();
        takenWithoutGuestAtTheSource();
        takenOfAnEndedMove();
        takenOfAnotherMove();
        handOverWithoutRequest();
        handOverWithRequest();
        handOverOfAllParts();
        Check.end();
    }

    /** The guest stores 9 at word 1, on page 0, with its first three instructions, and then goes round. */
    private static MovingGuest moving() {
        MovingGuest x = Guests.on0(Code.set(0, 9), Code.set(1, 1), Code.store(0, 1, 0), Code.jump(3));
        Check.due("move", x.move(), 1);
        return x;
    }

    /** Page 0 is on the link as it was (piece 0, serial 1) and changed (piece 1, serial 9). */
    private static MovingGuest oldAndNew() {
        MovingGuest x = moving();
        Guests.sends(x, 1);
        Guests.runs(x, 0, 3);
        for (int i = 0; i < 7; i++) {
            Check.due("step", x.step(), 1);
            Check.due("lose", x.lose(1), 1);
        }
        Check.due("step", x.step(), 1);
        Check.due("old", x.piece(0, 3), 1);
        Check.due("new", x.piece(1, 3), 9);
        return x;
    }

    /** The piece comes once more and that one arrives, so that all, the link too, is as before. */
    private static void hasNoEffect(MovingGuest x, int k, int kind) {
        Check.unchanged(x, () -> {
            int pieces = x.told(6);
            Check.due("twice", x.twice(k), pieces + 1);
            Check.due("deliver", x.deliver(pieces), kind);
        });
    }

    private static void pageWithTheNextSerial() {
        Check.sentence("PAGE: if the serial is greater than that which it has, it takes words and serial");
        MovingGuest x = oldAndNew();
        Check.due("words 0 at first", x.memory(1, 0), 0);
        Check.due("serial 1 after 0", x.deliver(0), 1);
        Check.due("word 0", x.memory(1, 0), Code.set(0, 9));
        Check.due("word 1 as it was sent", x.memory(1, 1), Code.set(1, 1));
        Check.due("serial 9 after 1", x.deliver(0), 1);
        Check.due("word 1", x.memory(1, 1), 9);
        Check.due("a word of another page", x.memory(1, 8), 0);
    }

    private static void pageWithTheSameSerial() {
        Check.sentence("PAGE: SEEN comes to the link in any case: the same serial");
        MovingGuest x = oldAndNew();
        Check.due("twice", x.twice(1), 3);
        Check.due("deliver", x.deliver(1), 1);
        Check.due("deliver the other", x.deliver(1), 1);
        Check.due("pieces", x.told(6), 3);
        for (int k = 1; k < 3; k++) {
            Check.due("SEEN", x.piece(k, 0), 3);
            Check.due("page", x.piece(k, 2), 0);
            Check.due("serial", x.piece(k, 3), 9);
        }
        Check.due("word 1", x.memory(1, 1), 9);
    }

    private static void pageWithAnOldSerial() {
        Check.sentence("PAGE: SEEN comes to the link in any case: a smaller serial");
        MovingGuest x = oldAndNew();
        Check.due("deliver the new", x.deliver(1), 1);
        Check.due("deliver the old", x.deliver(0), 1);
        Check.due("word 1 stays", x.memory(1, 1), 9);
        Check.due("SEEN", x.piece(1, 0), 3);
        Check.due("with its own serial", x.piece(1, 3), 1);
        Check.due("pieces", x.told(6), 2);
    }

    private static void pageForAHostNotUp() {
        Check.sentence("PAGE: the target, which is up");
        MovingGuest x = moving();
        Guests.sends(x, 2);
        Check.due("deliver to a host that is up", x.deliver(0), 1);
        Check.due("SEEN", x.piece(1, 0), 3);
        Check.due("crash", x.crash(1), true);
        hasNoEffect(x, 0, 1);
    }

    private static void pageForAHostThatIsBack() {
        Check.sentence("PAGE: and takes part in the move");
        MovingGuest x = moving();
        Guests.sends(x, 2);
        Check.due("crash", x.crash(1), true);
        Check.due("back", x.back(1), true);
        hasNoEffect(x, 0, 1);
        Check.due("no word", x.memory(1, 0), 0);
    }

    private static void pageOfAnEndedMove() {
        Check.sentence("PAGE: a move that ends goes on no more, and nobody takes part in it");
        MovingGuest x = moving();
        Guests.sends(x, 2);
        Check.due("abort", x.abort(), true);
        hasNoEffect(x, 0, 1);
        x = moving();
        Guests.sends(x, 2);
        Check.due("crash of the source", x.crash(0), true);
        hasNoEffect(x, 0, 1);
        x = moving();
        Guests.sends(x, 1);
        Check.due("twice", x.twice(0), 2);
        Check.due("deliver", x.deliver(1), 1);
        Check.due("deliver", x.deliver(1), 3);
        Guests.pages(x, 7);
        Check.due("step", x.step(), 2);
        Check.due("deliver", x.deliver(1), 2);
        Check.due("hand-over", x.deliver(1), 4);
        hasNoEffect(x, 0, 1);
    }

    private static void pageOfAnotherMove() {
        Check.sentence("PAGE: in the move with its number");
        MovingGuest x = moving();
        Guests.sends(x, 1);
        Check.due("abort", x.abort(), true);
        Check.due("move", x.move(), 2);
        hasNoEffect(x, 0, 1);
        Check.due("no word", x.memory(1, 0), 0);
        Check.due("step", x.step(), 1);
        Check.due("deliver that of move 2", x.deliver(x.told(6) - 1), 1);
        Check.due("word", x.memory(1, 0), Code.set(0, 9));
    }

    /** PAGE, SEEN, STATE and TAKEN of the move from 0 to 1 come late, in the one from 1 to 0. */
    private static void piecesOfTheMoveThere() {
        Check.sentence("what does not fit here has no effect: pieces of the move there in the move back");
        MovingGuest x = moving();
        Guests.sends(x, 1);
        Check.due("twice", x.twice(0), 2);
        Check.due("deliver PAGE", x.deliver(1), 1);
        Check.due("twice", x.twice(1), 3);
        Check.due("deliver SEEN", x.deliver(2), 3);
        Guests.pages(x, 7);
        Check.due("step", x.step(), 2);
        Check.due("twice", x.twice(2), 4);
        Check.due("deliver STATE", x.deliver(3), 2);
        Check.due("twice", x.twice(3), 5);
        Check.due("deliver TAKEN", x.deliver(4), 4);
        Check.due("there", x.holder(), 1);
        Check.due("move back", x.move(), 2);
        int[] kinds = {1, 3, 2, 4};
        for (int kind : kinds) {
            Check.due("deliver", x.deliver(0), kind);
            Guests.told("after " + kind, x, 1, 2, 2, 1, 0, 8);
            Check.due("no word came", x.memory(0, 0), 0);
            Check.due("not ready", x.told(7), 0);
        }
        Check.due("pieces", x.told(6), 0);
        Check.due("holder", x.holder(), 1);
    }

    private static void pageForAReadyTarget() {
        Check.sentence("PAGE: a SEEN comes to the link in any case (from a target that is ready too)");
        MovingGuest x = moving();
        Guests.sends(x, 1);
        Check.due("twice", x.twice(0), 2);
        Check.due("deliver", x.deliver(1), 1);
        Check.due("deliver", x.deliver(1), 3);
        Guests.pages(x, 7);
        Check.due("step", x.step(), 2);
        Check.due("deliver STATE", x.deliver(1), 2);
        Check.due("ready", x.told(7), 1);
        Check.due("twice", x.twice(0), 3);
        Check.due("deliver PAGE", x.deliver(0), 1);
        Check.due("SEEN", x.piece(2, 0), 3);
        hasNoEffect(x, 2, 3);
        Check.due("crash of the source", x.crash(0), true);
        Check.due("deliver PAGE", x.deliver(1), 1);
        Check.due("SEEN when the source holds none", x.piece(2, 0), 3);
        Check.due("pieces", x.told(6), 3);
        hasNoEffect(x, 2, 3);
    }

    private static void seenOfThisSerial() {
        Check.sentence("SEEN: if the page is sent with this serial, it is known");
        MovingGuest x = moving();
        Guests.sends(x, 1);
        Check.due("deliver PAGE", x.deliver(0), 1);
        Check.due("not known", x.told(5), 8);
        Check.due("twice", x.twice(0), 2);
        Check.due("deliver SEEN", x.deliver(0), 3);
        Check.due("not known", x.told(5), 7);
        hasNoEffect(x, 0, 3);
    }

    private static void seenOfAnotherSerial() {
        Check.sentence("SEEN: sent with this serial (and not with a later one)");
        MovingGuest x = oldAndNew();
        Check.due("deliver the old", x.deliver(0), 1);
        Check.due("SEEN of the old", x.piece(1, 3), 1);
        hasNoEffect(x, 1, 3);
        Check.due("not known", x.told(5), 8);
        Check.due("deliver the new", x.deliver(0), 1);
        Check.due("deliver its SEEN", x.deliver(x.told(6) - 1), 3);
        Check.due("not known", x.told(5), 7);
    }

    private static void seenOfAPageThatIsDue() {
        Check.sentence("SEEN: if the page is sent (and not due by a change)");
        MovingGuest x = moving();
        Guests.sends(x, 1);
        Check.due("deliver PAGE", x.deliver(0), 1);
        Guests.runs(x, 0, 3);
        hasNoEffect(x, 0, 3);
        Check.sentence("SEEN: if the page is sent (and not due again)");
        x = moving();
        Guests.sends(x, 8);
        Check.due("deliver PAGE", x.deliver(0), 1);
        Guests.loses(x, 7);
        Check.due("due again", x.step(), 3);
        hasNoEffect(x, 0, 3);
        Check.due("not known", x.told(5), 8);
        Check.due("page 0 is sent again", x.step(), 1);
        Check.due("with serial 9", x.piece(x.told(6) - 1, 3), 9);
        hasNoEffect(x, 0, 3);
    }

    private static void seenOfAnEndedMove() {
        Check.sentence("SEEN: when the move goes on");
        MovingGuest x = moving();
        Guests.sends(x, 1);
        Check.due("deliver PAGE", x.deliver(0), 1);
        Check.due("abort", x.abort(), true);
        hasNoEffect(x, 0, 3);
        Check.due("a move has all pages due", x.move(), 2);
        Check.due("not known", x.told(5), 8);
    }

    private static void seenOfAnotherMove() {
        Check.sentence("SEEN: when the move with that number goes on");
        MovingGuest x = moving();
        Guests.sends(x, 1);
        Check.due("deliver PAGE", x.deliver(0), 1);
        Check.due("abort", x.abort(), true);
        Check.due("move", x.move(), 2);
        Check.due("page 0 with serial 1 again", x.step(), 1);
        hasNoEffect(x, 0, 3);
        Check.due("not known", x.told(5), 8);
    }

    private static void seenWithoutTarget() {
        Check.sentence("SEEN: when the move goes on, and its source holds the guest (whatever the target does)");
        MovingGuest x = moving();
        Guests.sends(x, 2);
        Check.due("deliver PAGE", x.deliver(0), 1);
        Check.due("deliver PAGE", x.deliver(0), 1);
        Check.due("crash of the target", x.crash(1), true);
        Check.due("deliver SEEN", x.deliver(0), 3);
        Check.due("not known", x.told(5), 7);
        Check.due("back", x.back(1), true);
        Check.due("deliver SEEN", x.deliver(0), 3);
        Check.due("not known", x.told(5), 6);
    }

    private static void stateForATargetNotReady() {
        Check.sentence("STATE: if it is not READY yet, it takes the state, and is");
        MovingGuest x = Guests.on0();
        Guests.movePages(x);
        Check.due("step", x.step(), 2);
        Check.due("not ready", x.told(7), 0);
        Check.due("deliver", x.deliver(0), 2);
        Check.due("ready", x.told(7), 1);
        Check.due("TAKEN", x.piece(0, 0), 4);
        Check.due("pieces", x.told(6), 1);
        Check.due("the source holds the guest", x.holder(), 0);
    }

    private static void stateForAReadyTarget() {
        Check.sentence("STATE: a piece TAKEN comes to the link in any case");
        MovingGuest x = Guests.on0();
        Guests.makeReady(x);
        Check.due("step", x.step(), 2);
        Check.due("deliver", x.deliver(1), 2);
        Check.due("pieces", x.told(6), 2);
        Check.due("a second TAKEN", x.piece(1, 0), 4);
        Check.due("ready", x.told(7), 1);
        Check.due("step", x.step(), 2);
        Check.due("crash of the source", x.crash(0), true);
        Check.due("deliver", x.deliver(2), 2);
        Check.due("a third TAKEN", x.piece(2, 0), 4);
        Check.due("ready", x.told(7), 1);
    }

    private static void stateForAHostNotUp() {
        Check.sentence("STATE: for the target likewise (which is up and takes part)");
        MovingGuest x = Guests.on0();
        Guests.movePages(x);
        Check.due("step", x.step(), 2);
        Check.due("crash of the target", x.crash(1), true);
        hasNoEffect(x, 0, 2);
        Check.due("back", x.back(1), true);
        hasNoEffect(x, 0, 2);
        Check.due("not ready", x.told(7), 0);
    }

    private static void stateOfAnEndedMove() {
        Check.sentence("STATE: a move that ends goes on no more");
        MovingGuest x = Guests.on0();
        Guests.movePages(x);
        Check.due("step", x.step(), 2);
        Check.due("abort", x.abort(), true);
        hasNoEffect(x, 0, 2);
        x = Guests.on0();
        Guests.movePages(x);
        Check.due("step", x.step(), 2);
        Check.due("crash of the source", x.crash(0), true);
        hasNoEffect(x, 0, 2);
    }

    private static void stateOfAnotherMove() {
        Check.sentence("STATE: in the move with its number");
        MovingGuest x = Guests.on0();
        Guests.movePages(x);
        Check.due("step", x.step(), 2);
        Check.due("abort", x.abort(), true);
        Guests.movePages(x);
        hasNoEffect(x, 0, 2);
        Check.due("not ready", x.told(7), 0);
    }

    private static void takenOfAReadyTarget() {
        Check.sentence("TAKEN: THE HAND-OVER");
        MovingGuest x = Guests.on0();
        Guests.makeReady(x);
        Check.due("twice", x.twice(0), 2);
        Check.due("deliver", x.deliver(0), 4);
        Guests.told("handed over", x, 1, 2, 0, NO, 0, 0, 1, 0, 0);
        Check.due("holder", x.holder(), 1);
        Check.due("deliver the other", x.deliver(0), 4);
        Guests.told("once only", x, 1, 2, 0, NO, 0, 0, 0, 0, 0);
    }

    private static void takenOfATargetNotReady() {
        Check.sentence("TAKEN: when its target is ready");
        MovingGuest x = Guests.on0();
        Guests.makeReady(x);
        Check.due("crash of the target", x.crash(1), true);
        hasNoEffect(x, 0, 4);
        Check.due("back", x.back(1), true);
        hasNoEffect(x, 0, 4);
        Check.due("the source holds the guest", x.holder(), 0);
    }

    private static void takenWithoutGuestAtTheSource() {
        Check.sentence("TAKEN: when its source holds the guest");
        MovingGuest x = Guests.on0();
        Guests.makeReady(x);
        Check.due("crash of the source", x.crash(0), true);
        hasNoEffect(x, 0, 4);
        Check.due("back", x.back(0), true);
        hasNoEffect(x, 0, 4);
        Check.due("nobody holds the guest", x.holder(), NO);
        Check.due("takeOver", x.takeOver(), true);
    }

    private static void takenOfAnEndedMove() {
        Check.sentence("TAKEN: when the move goes on");
        MovingGuest x = Guests.on0();
        Guests.makeReady(x);
        Check.due("abort", x.abort(), true);
        hasNoEffect(x, 0, 4);
        Check.due("the source holds the guest", x.holder(), 0);
    }

    private static void takenOfAnotherMove() {
        Check.sentence("TAKEN: when the move with that number goes on");
        MovingGuest x = Guests.on0();
        Guests.makeReady(x);
        Check.due("abort", x.abort(), true);
        Guests.makeReady(x);
        Check.due("TAKEN of move 1", x.piece(0, 1), 1);
        hasNoEffect(x, 0, 4);
        Check.due("the source holds the guest", x.holder(), 0);
        Check.due("TAKEN of move 2", x.piece(1, 1), 2);
        Check.due("deliver it", x.deliver(1), 4);
        Check.due("hand-over", x.holder(), 1);
    }

    private static void handOverWithoutRequest() {
        Check.sentence("THE HAND-OVER: if the guest has a request, the target gets the order (and else none)");
        MovingGuest x = Guests.on0(Code.jump(0));
        Guests.wholeMove(x);
        Check.due("disk(1)", x.disk(1), NO);
        Check.due("disk(0)", x.disk(0), NO);
        Guests.runs(x, 1, 1);
        Check.due("the old host runs none", x.run(0, 1), NO);
    }

    private static void handOverWithRequest() {
        Check.sentence("THE HAND-OVER: the target gets the order for it with that number");
        MovingGuest x = Guests.on0(Code.set(0, 55), Code.put(0, 7));
        Guests.runs(x, 0, 2);
        Guests.wholeMove(x);
        Check.due("request", x.guest(1, 9), 1);
        Check.due("the order of the source is too old", x.disk(0), 0);
        Check.due("block 7", x.block(7), 0);
        Check.due("that of the target is not", x.disk(1), 1);
        Check.due("block 7", x.block(7), 55);
        Check.due("no request", x.guest(1, 9), 0);
    }

    private static void handOverOfAllParts() {
        Check.sentence("THE HAND-OVER: with the memory and state that it has (8 words of input, 40 of output)");
        MovingGuest x = Guests.on0With(0, 0, Code.set(3, 255), Code.timer(3), Code.add(0, 3), Code.write(0),
                Code.store(0, 1, 63), Code.jump(2));
        for (int i = 1; i <= 8; i++) {
            Check.due("input", x.input(0, 100 + i), i);
        }
        Guests.runs(x, 0, 100);
        Guests.runs(x, 0, 62);
        Guests.guest("before", x, 0, 255 * 40, 0, 0, 255, 2, 95, 162, 8, 40, 0);
        Guests.wholeMove(x);
        Guests.guest("after", x, 1, 255 * 40, 0, 0, 255, 2, 95, 162, 8, 40, 0);
        Guests.guest("none at the source", x, 0, 0, 0, 0, 0, 0, 0, 0, 0, 0, 0);
        for (int i = 0; i < 40; i++) {
            Check.due("output", x.output(1, i), 255 * (i + 1));
        }
        Check.due("memory", x.memory(1, 63), 255 * 40);
        Check.due("memory of the source", x.memory(0, 63), 0);
        Check.due("the input is full", x.input(1, 9), MovingGuest.FULL);
    }
}
