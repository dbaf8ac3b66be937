/** Promise 12: abort. */
final class AbortTest {
    private static final int NO = MovingGuest.NO;

    public static void main(String[] args) {
        withoutMove();
        guestGoesOn();
        targetLeaves();
        requestIsOrderedAnew();
        sourceWithoutGuest();
        Check.end();
    }

    private static void withoutMove() {
        MovingGuest x = new MovingGuest();
        Check.due("abort of nothing", x.abort(), false);
        x = Guests.on0();
        Check.due("abort without a move", x.abort(), false);
        Check.due("number", x.told(1), 1);
        Guests.wholeMove(x);
        Check.due("abort after the move", x.abort(), false);
        Check.due("number", x.told(1), 2);
    }

    private static void guestGoesOn() {
        MovingGuest x = Guests.on0(Code.jump(0));
        Guests.movePages(x);
        Check.due("step", x.step(), 2);
        Check.due("stopped", x.run(0, 1), NO);
        Check.due("abort", x.abort(), true);
        Guests.told("aborted", x, 0, 2, 0, NO, 0, 0, 1, 0, 0);
        Check.due("holder", x.holder(), 0);
        Check.due("run", x.run(0, 1), 1);
        Check.due("the piece stays on the link", x.deliver(0), 2);
        Check.due("without effect", x.told(6), 0);
    }

    private static void targetLeaves() {
        MovingGuest x = Guests.on0(4, 5);
        Guests.makeReady(x);
        Check.due("a word at the target", x.memory(1, 1), 5);
        Check.due("abort", x.abort(), true);
        Check.due("none any more", x.memory(1, 1), 0);
        Check.due("not ready", x.told(7), 0);
        Check.due("TAKEN", x.deliver(0), 4);
        Check.due("no hand-over", x.holder(), 0);
        Check.due("takeOver", x.takeOver(), false);
        Check.due("crash", x.crash(0), true);
        Check.due("takeOver", x.takeOver(), false);
    }

    private static void requestIsOrderedAnew() {
        MovingGuest x = Guests.on0(Code.set(0, 8), Code.put(0, 1));
        Check.due("run", x.run(0, 5), 2);
        Check.due("move", x.move(), 1);
        Check.due("abort of a move without a stop", x.abort(), true);
        Check.due("number", x.told(1), 2);
        Check.due("disk", x.disk(0), 1);
        Check.due("block", x.block(1), 8);
        Check.due("move", x.move(), 2);
        Check.due("abort", x.abort(), true);
        Check.due("no order without a request", x.disk(0), NO);
    }

    private static void sourceWithoutGuest() {
        MovingGuest x = Guests.on0(Code.set(0, 8), Code.put(0, 1));
        Check.due("run", x.run(0, 5), 2);
        Guests.makeReady(x);
        Check.due("crash", x.crash(0), true);
        Check.due("back", x.back(0), true);
        Check.due("abort", x.abort(), true);
        Guests.told("aborted", x, 0, 1, 0, NO, 0, 0, 1, 0, 0);
        Check.due("holder", x.holder(), NO);
        Check.due("disk(0)", x.disk(0), NO);
        Check.due("disk(1)", x.disk(1), NO);
        Check.due("takeOver", x.takeOver(), false);
        Check.due("abort again", x.abort(), false);
    }
}
