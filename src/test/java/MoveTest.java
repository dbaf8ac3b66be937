/** Promise 7: move. */
final class MoveTest {
    private static final int NO = MovingGuest.NO;

    public static void main(String[] args) {
        refused();
        begins();
        numbersGoOn();
        beginsAnew();
        stopIsForgotten();
        goesBothWays();
        Check.end();
    }

    private static void refused() {
        MovingGuest x = Guests.on0();
        Check.due("crash", x.crash(1), true);
        Check.due("move with the other not up", x.move(), NO);
        Check.due("back", x.back(1), true);
        Check.due("a move that was refused has no number", x.move(), 1);
        Check.due("move while one goes on", x.move(), NO);
        Check.due("crash", x.crash(0), true);
        Check.due("move with the owner not up", x.move(), NO);
        Check.due("back", x.back(0), true);
        Check.due("move with an owner that holds none", x.move(), NO);
        Check.due("told(2)", x.told(2), 0);
    }

    private static void begins() {
        MovingGuest x = Guests.on0(1, 2, 3);
        Check.due("move", x.move(), 1);
        Guests.told("begun", x, 0, 1, 1, 0, 0, 8, 0, 0, 0);
        Check.due("the source still holds the guest", x.holder(), 0);
        Check.due("the source still runs it", x.run(0, 1), 1);
        Check.due("the target has words 0", x.memory(1, 0), 0);
    }

    private static void numbersGoOn() {
        MovingGuest x = Guests.on0();
        Check.due("move", x.move(), 1);
        Check.due("abort", x.abort(), true);
        Check.due("move", x.move(), 2);
        Check.due("crash", x.crash(0), true);
        Check.due("create", x.create(1), 3);
        Check.due("back", x.back(0), true);
        Check.due("move", x.move(), 3);
        Guests.told("third", x, 1, 3, 3, 1, 0, 8, 0, 0, 0);
    }

    /** Nothing of an earlier move is left in the next one. */
    private static void beginsAnew() {
        MovingGuest x = Guests.on0(10, 20);
        Check.due("move", x.move(), 1);
        Guests.pages(x, 3);
        Check.due("the target has a page", x.memory(1, 1), 20);
        Check.due("abort", x.abort(), true);
        Check.due("move", x.move(), 2);
        Guests.told("anew", x, 0, 2, 2, 0, 0, 8, 0, 0, 0);
        Check.due("words 0 again", x.memory(1, 1), 0);
        Check.due("step", x.step(), 1);
        Check.due("its move", x.piece(0, 1), 2);
        Check.due("page 0 first", x.piece(0, 2), 0);
        Check.due("serial 1 first", x.piece(0, 3), 1);
        Check.due("deliver", x.deliver(0), 1);
        Check.due("a serial of 1 is greater than that of a new target", x.memory(1, 1), 20);
    }

    private static void stopIsForgotten() {
        MovingGuest x = Guests.on0(Code.jump(0));
        Guests.makeReady(x);
        Check.due("stopped", x.told(4), 1);
        Check.due("abort", x.abort(), true);
        Check.due("move", x.move(), 2);
        Guests.told("anew", x, 0, 2, 2, 0, 0, 8, 1, 0, 0);
        Check.due("runs in the new move", x.run(0, 3), 3);
        Guests.pages(x, 1);
        Check.due("still not stopped", x.told(4), 0);
    }

    private static void goesBothWays() {
        MovingGuest x = Guests.on0(Code.set(0, 5), Code.set(1, 6), Code.set(2, 7));
        Check.due("run", x.run(0, 1), 1);
        Guests.wholeMove(x);
        Guests.told("there", x, 1, 2, 0, NO, 0, 0, 0, 0, 0);
        Check.due("run", x.run(1, 1), 1);
        Guests.wholeMove(x);
        Guests.told("back", x, 0, 3, 0, NO, 0, 0, 0, 0, 0);
        Check.due("run", x.run(0, 5), 1);
        for (int i = 0; i < 3; i++) {
            Check.due("register " + i, x.guest(0, i), 5 + i);
        }
        Check.due("retired", x.guest(0, 6), 3);
    }
}
