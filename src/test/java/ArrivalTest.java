/** Promise 9: what a piece does that arrives. */
final class ArrivalTest {
    private static final int NO = MovingGuest.NO;

    public static void main(String[] args) {
        latePage();
        pageTwice();
        seenOfAnOldSerial();
        seenTwice();
        piecesOfAnOldMove();
        stateAndTakenOfAnOldMove();
        targetThatIsBack();
        stateTwice();
        handOver();
        handOverWithRequest();
        takenTwice();
        takenWithoutReadyTarget();
        takenWithoutGuestAtSource();
        Check.end();
    }

    /** Page 0 is on the link twice: with word 5 as 0 (piece 0) and as 9 (piece 1). */
    private static MovingGuest oldAndNewPage() {
        MovingGuest x = Guests.on0(Code.set(0, 9), Code.store(0, 1, 5));
        Check.due("move", x.move(), 1);
        Check.due("step", x.step(), 1);
        Check.due("run", x.run(0, 5), 2);
        for (int i = 0; i < 7; i++) {
            Check.due("step", x.step(), 1);
            Check.due("lose", x.lose(1), 1);
        }
        Check.due("step", x.step(), 1);
        Check.due("serial of the old", x.piece(0, 3), 1);
        Check.due("serial of the new", x.piece(1, 3), 9);
        return x;
    }

    private static void latePage() {
        MovingGuest x = oldAndNewPage();
        Check.due("deliver the new", x.deliver(1), 1);
        Check.due("new word", x.memory(1, 5), 9);
        Check.due("deliver the old", x.deliver(0), 1);
        Check.due("the new word stays", x.memory(1, 5), 9);
        Check.due("pieces", x.told(6), 2);
        Check.due("SEEN of the new", x.piece(0, 3), 9);
        Check.due("SEEN of the old in any case", x.piece(1, 3), 1);
        Check.due("its kind", x.piece(1, 0), 3);
        x = oldAndNewPage();
        Check.due("deliver the old", x.deliver(0), 1);
        Check.due("old word", x.memory(1, 5), 0);
        Check.due("deliver the new", x.deliver(0), 1);
        Check.due("new word", x.memory(1, 5), 9);
    }

    private static void pageTwice() {
        MovingGuest x = oldAndNewPage();
        Check.due("twice", x.twice(1), 3);
        Check.due("deliver", x.deliver(1), 1);
        Check.due("deliver", x.deliver(1), 1);
        Check.due("a SEEN for each", x.told(6), 3);
        Check.due("first", x.piece(1, 0), 3);
        Check.due("second", x.piece(2, 0), 3);
        Check.due("word", x.memory(1, 5), 9);
    }

    private static void seenOfAnOldSerial() {
        MovingGuest x = oldAndNewPage();
        Check.due("deliver the old", x.deliver(0), 1);
        Check.due("deliver its SEEN", x.deliver(1), 3);
        Check.due("the page is sent with another serial", x.told(5), 8);
        Check.due("deliver the new", x.deliver(0), 1);
        Check.due("deliver its SEEN", x.deliver(0), 3);
        Check.due("known", x.told(5), 7);
    }

    private static void seenTwice() {
        MovingGuest x = Guests.on0(Code.store(0, 0, 40));
        Check.due("move", x.move(), 1);
        for (int i = 0; i < 6; i++) {
            Check.due("step", x.step(), 1);
            Check.due("deliver", x.deliver(i), 1);
        }
        Check.due("twice", x.twice(5), 7);
        Check.due("deliver SEEN of page 5", x.deliver(5), 3);
        Check.due("known", x.told(5), 7);
        Check.due("page 5 changes", x.run(0, 5), 1);
        Check.due("due", x.told(5), 8);
        Check.due("deliver SEEN again", x.deliver(5), 3);
        Check.due("still due", x.told(5), 8);
    }

    private static void piecesOfAnOldMove() {
        MovingGuest x = Guests.on0(6, 7);
        Check.due("move", x.move(), 1);
        Check.due("step", x.step(), 1);
        Check.due("step", x.step(), 1);
        Check.due("deliver", x.deliver(0), 1);
        Check.due("abort", x.abort(), true);
        Check.due("twice", x.twice(0), 3);
        Check.due("PAGE without a move", x.deliver(0), 1);
        Check.due("no SEEN", x.told(6), 2);
        Check.due("move", x.move(), 2);
        Check.due("the new move sends page 0 with serial 1", x.step(), 1);
        Check.due("deliver PAGE of the old", x.deliver(1), 1);
        Check.due("no SEEN", x.told(6), 2);
        Check.due("no words", x.memory(1, 1), 0);
        Check.due("SEEN of the old", x.piece(0, 1), 1);
        Check.due("deliver it", x.deliver(0), 3);
        Check.due("not known", x.told(5), 8);
    }

    /** STATE and TAKEN of move 1 come in move 2, of which all pages are known. */
    private static void stateAndTakenOfAnOldMove() {
        MovingGuest x = Guests.on0(Code.set(0, 5));
        Guests.makeReady(x);
        Check.due("step", x.step(), 2);
        Check.due("abort", x.abort(), true);
        Check.due("run", x.run(0, 1), 1);
        Guests.movePages(x);
        Check.due("step", x.step(), 2);
        Check.due("deliver STATE of move 1", x.deliver(1), 2);
        Check.due("not ready", x.told(7), 0);
        Check.due("no TAKEN", x.told(6), 2);
        Check.due("deliver STATE of move 2", x.deliver(1), 2);
        Check.due("ready", x.told(7), 1);
        Check.due("TAKEN of move 1", x.piece(0, 1), 1);
        Check.due("deliver it", x.deliver(0), 4);
        Check.due("no hand-over", x.holder(), 0);
        Check.due("TAKEN of move 2", x.piece(0, 1), 2);
        Check.due("deliver it", x.deliver(0), 4);
        Check.due("hand-over", x.holder(), 1);
        Check.due("the later state", x.guest(1, 0), 5);
    }

    private static void targetThatIsBack() {
        MovingGuest x = Guests.on0(6, 7);
        Check.due("move", x.move(), 1);
        Check.due("step", x.step(), 1);
        Check.due("twice", x.twice(0), 2);
        Check.due("crash", x.crash(1), true);
        Check.due("PAGE for a target not up", x.deliver(0), 1);
        Check.due("no SEEN", x.told(6), 1);
        Check.due("back", x.back(1), true);
        Check.due("PAGE for a target that takes no part", x.deliver(0), 1);
        Check.due("no SEEN", x.told(6), 0);
        Check.due("no words", x.memory(1, 1), 0);
        x = Guests.on0();
        Guests.movePages(x);
        Check.due("step", x.step(), 2);
        Check.due("step", x.step(), 2);
        Check.due("crash", x.crash(1), true);
        Check.due("STATE for a target not up", x.deliver(0), 2);
        Check.due("back", x.back(1), true);
        Check.due("STATE for a target that takes no part", x.deliver(0), 2);
        Check.due("no TAKEN", x.told(6), 0);
        Check.due("not ready", x.told(7), 0);
    }

    private static void stateTwice() {
        MovingGuest x = Guests.on0();
        Guests.movePages(x);
        Check.due("step", x.step(), 2);
        Check.due("twice", x.twice(0), 2);
        Check.due("deliver", x.deliver(0), 2);
        Check.due("ready", x.told(7), 1);
        Check.due("deliver", x.deliver(0), 2);
        Check.due("a TAKEN for each", x.told(6), 2);
        Check.due("first", x.piece(0, 0), 4);
        Check.due("second", x.piece(1, 0), 4);
        Check.due("ready", x.told(7), 1);
    }

    private static void handOver() {
        MovingGuest x = Guests.on0(Code.set(0, 1), Code.set(1, 2), Code.set(2, 3), Code.set(3, 200), Code.timer(3),
                Code.write(0), Code.write(2), Code.store(1, 0, 59), Code.jump(8));
        Check.due("input", x.input(0, 44), 1);
        Check.due("run", x.run(0, 8), 8);
        Guests.makeReady(x);
        Guests.told("before", x, 0, 1, 1, 0, 1, 0, 1, 1, 9);
        Check.due("the target holds no guest yet", x.guest(1, 0), 0);
        Check.due("nor an output", x.output(1, 0), 0);
        Check.due("deliver TAKEN", x.deliver(0), 4);
        Guests.told("after", x, 1, 2, 0, NO, 0, 0, 0, 0, 0);
        Check.due("holder", x.holder(), 1);
        int[] due = {1, 2, 3, 200, 8, 197, 8, 1, 2, 0};
        for (int what = 0; what < 10; what++) {
            Check.due("guest(1, " + what + ")", x.guest(1, what), due[what]);
            Check.due("guest(0, " + what + ")", x.guest(0, what), 0);
        }
        Check.due("output 0", x.output(1, 0), 1);
        Check.due("output 1", x.output(1, 1), 3);
        Check.due("memory", x.memory(1, 60), 2);
        Check.due("memory", x.memory(1, 8), Code.jump(8));
        Check.due("memory of the source", x.memory(0, 60), 0);
        Check.due("output of the source", x.output(0, 0), 0);
        Check.due("run at the target", x.run(1, 3), 3);
        Check.due("run at the source", x.run(0, 3), NO);
        Check.due("no order without a request", x.disk(1), NO);
    }

    private static void handOverWithRequest() {
        MovingGuest x = Guests.on0(Code.set(0, 55), Code.put(0, 6));
        Check.due("run", x.run(0, 5), 2);
        Guests.makeReady(x);
        Check.due("no order for the target yet", x.disk(1), NO);
        Check.due("deliver TAKEN", x.deliver(0), 4);
        Check.due("request", x.guest(1, 9), 1);
        Check.due("the source is too late", x.disk(0), 0);
        Check.due("block", x.block(6), 0);
        Check.due("the target is not", x.disk(1), 1);
        Check.due("block", x.block(6), 55);
        Check.due("request", x.guest(1, 9), 0);
    }

    private static void takenTwice() {
        MovingGuest x = Guests.on0();
        Guests.makeReady(x);
        Check.due("twice", x.twice(0), 2);
        Check.due("deliver", x.deliver(0), 4);
        Check.due("deliver", x.deliver(0), 4);
        Guests.told("one hand-over", x, 1, 2, 0);
        Check.due("holder", x.holder(), 1);
    }

    private static void takenWithoutReadyTarget() {
        MovingGuest x = Guests.on0();
        Guests.makeReady(x);
        Check.due("crash", x.crash(1), true);
        Check.due("back", x.back(1), true);
        Check.due("deliver", x.deliver(0), 4);
        Guests.told("no hand-over", x, 0, 1, 1, 0, 1, 0, 0, 0, 9);
        Check.due("holder", x.holder(), 0);
    }

    private static void takenWithoutGuestAtSource() {
        MovingGuest x = Guests.on0();
        Guests.makeReady(x);
        Check.due("step", x.step(), 2);
        Check.due("crash", x.crash(0), true);
        Check.due("deliver TAKEN", x.deliver(0), 4);
        Guests.told("no hand-over", x, 0, 1, 1, 0, 1, 0, 1, 1, 10);
        Check.due("holder", x.holder(), NO);
        Check.due("deliver STATE to a ready target", x.deliver(0), 2);
        Check.due("TAKEN in any case", x.piece(0, 0), 4);
    }
}
