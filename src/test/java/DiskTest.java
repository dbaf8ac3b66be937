/** Promises 6 and 23: disk and block. */
final class DiskTest {
    private static final int BAD = MovingGuest.BAD;
    private static final int NO = MovingGuest.NO;

    public static void main(String[] args) {
        answers();
        crashTakesTheOrder();
        stoppedGuestHasNoDisk();
        oldHostIsTooLate();
        oldOrderIsReplaced();
        requestDuringMove();
        blocks();
        Check.end();
    }

    private static MovingGuest asking() {
        MovingGuest x = Guests.on0(Code.set(0, 70), Code.put(0, 3), Code.put(0, 4));
        Check.due("run", x.run(0, 9), 2);
        return x;
    }

    private static void answers() {
        MovingGuest x = asking();
        Check.due("disk(-1)", x.disk(-1), BAD);
        Check.due("disk(2)", x.disk(2), BAD);
        Check.due("disk of a host without an order", x.disk(1), NO);
        Check.due("not done yet", x.block(3), 0);
        Check.due("disk", x.disk(0), 1);
        Check.due("block", x.block(3), 70);
        Check.due("no request any more", x.guest(0, 9), 0);
        Check.due("no order any more", x.disk(0), NO);
    }

    private static void crashTakesTheOrder() {
        MovingGuest x = asking();
        Check.due("crash", x.crash(0), true);
        Check.due("disk of a host not up", x.disk(0), NO);
        Check.due("back", x.back(0), true);
        Check.due("the order is gone", x.disk(0), NO);
        Check.due("block", x.block(3), 0);
    }

    private static void stoppedGuestHasNoDisk() {
        MovingGuest x = asking();
        Guests.movePages(x);
        Check.due("step", x.step(), 2);
        Check.due("disk when stopped", x.disk(0), NO);
        Check.due("the request stays", x.guest(0, 9), 1);
        Check.due("abort", x.abort(), true);
        Check.due("disk by the order of the new number", x.disk(0), 1);
        Check.due("block", x.block(3), 70);
    }

    private static void oldHostIsTooLate() {
        MovingGuest x = asking();
        Guests.wholeMove(x);
        Check.due("disk of the new host", x.disk(1), 1);
        Check.due("block", x.block(3), 70);
        Check.due("run", x.run(1, 1), 1);
        Check.due("a request again", x.guest(1, 9), 1);
        Check.due("disk of the old host", x.disk(0), 0);
        Check.due("the request stays", x.guest(1, 9), 1);
        Check.due("its order is gone", x.disk(0), NO);
        Check.due("disk of the new host", x.disk(1), 1);
        Check.due("block", x.block(4), 70);
    }

    /** Host 0 gets its guest back while it has an order from before: the new order stands in its place. */
    private static void oldOrderIsReplaced() {
        MovingGuest x = Guests.on0(Code.set(0, 70), Code.put(0, 3), Code.set(0, 71), Code.put(0, 4));
        Check.due("run", x.run(0, 2), 2);
        Guests.wholeMove(x);
        Check.due("disk", x.disk(1), 1);
        Check.due("move back", x.run(1, 1), 1);
        Guests.wholeMove(x);
        Check.due("no request moved", x.guest(0, 9), 0);
        Check.due("run", x.run(0, 1), 1);
        Check.due("the new order", x.disk(0), 1);
        Check.due("block 4", x.block(4), 71);
        Check.due("only one order", x.disk(0), NO);
    }

    private static void requestDuringMove() {
        MovingGuest x = Guests.on0(Code.set(0, 70), Code.put(0, 3));
        Check.due("move", x.move(), 1);
        Check.due("run", x.run(0, 9), 2);
        Check.due("disk during the move", x.disk(0), 1);
        Check.due("block", x.block(3), 70);
    }

    private static void blocks() {
        MovingGuest x = Guests.on0(Code.set(0, 9), Code.put(0, 0), Code.set(0, 8), Code.put(0, 7));
        Check.due("run", x.run(0, 2), 2);
        Check.due("disk", x.disk(0), 1);
        Check.due("run", x.run(0, 2), 2);
        Check.due("disk", x.disk(0), 1);
        Check.due("crash", x.crash(0), true);
        Check.due("block(0) stays", x.block(0), 9);
        Check.due("block(7) stays", x.block(7), 8);
        Check.due("block(1)", x.block(1), 0);
        Check.due("block(-1)", x.block(-1), 0);
        Check.due("block(8)", x.block(8), 0);
        Check.due("block(least)", x.block(Integer.MIN_VALUE), 0);
        Check.due("block(greatest)", x.block(Integer.MAX_VALUE), 0);
    }
}
