/** Promises 13, 14, 15 and 19: crash, back, takeOver and isUp. */
final class CrashTest {
    private static final int NO = MovingGuest.NO;

    public static void main(String[] args) {
        upAndDown();
        wrongHosts();
        guestIsGone();
        sourceOfAMove();
        targetOfAMove();
        readyTarget();
        takeOverAfterCrash();
        takeOverWithRequest();
        takeOverWhenSourceIsBack();
        bothCrash();
        takeOverRefused();
        Check.end();
    }

    private static void upAndDown() {
        MovingGuest x = new MovingGuest();
        for (int host = 0; host < 2; host++) {
            Check.due("back of a host that is up", x.back(host), false);
            Check.due("crash", x.crash(host), true);
            Check.due("isUp", x.isUp(host), false);
            Check.due("isUp of the other", x.isUp(1 - host), true);
            Check.due("crash again", x.crash(host), false);
            Check.due("back", x.back(host), true);
            Check.due("isUp", x.isUp(host), true);
            Check.due("back again", x.back(host), false);
        }
    }

    private static void wrongHosts() {
        MovingGuest x = new MovingGuest();
        int[] wrong = {-1, 2, Integer.MIN_VALUE, Integer.MAX_VALUE};
        for (int host : wrong) {
            Check.due("crash", x.crash(host), false);
            Check.due("back", x.back(host), false);
            Check.due("isUp", x.isUp(host), false);
        }
    }

    private static void guestIsGone() {
        MovingGuest x = Guests.on0(Code.set(0, 8), Code.write(0));
        Check.due("run", x.run(0, 5), 2);
        Check.due("crash", x.crash(0), true);
        Check.due("holder", x.holder(), NO);
        Guests.told("the witness stays", x, 0, 1);
        Check.due("back", x.back(0), true);
        Check.due("holder", x.holder(), NO);
        Check.due("guest", x.guest(0, 0), 0);
        Check.due("output", x.output(0, 0), 0);
        Check.due("memory", x.memory(0, 0), 0);
        Check.due("run", x.run(0, 1), NO);
    }

    private static void sourceOfAMove() {
        MovingGuest x = Guests.on0(4, 5);
        Guests.movePages(x);
        Check.due("step", x.step(), 2);
        Check.due("a word at the target", x.memory(1, 1), 5);
        Check.due("crash", x.crash(0), true);
        Guests.told("the move ended", x, 0, 1, 0, NO, 0, 0, 1, 0, 0);
        Check.due("the target takes no part", x.memory(1, 1), 0);
        Check.due("STATE", x.deliver(0), 2);
        Check.due("not ready", x.told(7), 0);
        Check.due("takeOver", x.takeOver(), false);
        Check.due("abort", x.abort(), false);
        Check.due("create", x.create(1), 2);
    }

    private static void targetOfAMove() {
        MovingGuest x = Guests.on0(Code.jump(0));
        Check.due("move", x.move(), 1);
        Guests.pages(x, 2);
        Check.due("crash", x.crash(1), true);
        Guests.told("the move goes on", x, 0, 1, 1, 0, 0, 6, 0, 0, 2);
        Check.due("no pages there", x.memory(1, 0), 0);
        Check.due("run", x.run(0, 1), 1);
        Check.due("step", x.step(), 1);
        Check.due("back", x.back(1), true);
        Check.due("no pages there", x.memory(1, 0), 0);
        Check.due("deliver", x.deliver(0), 1);
        Check.due("no SEEN", x.told(6), 0);
        Check.due("move", x.move(), NO);
        Check.due("abort", x.abort(), true);
        Check.due("move", x.move(), 2);
    }

    private static void readyTarget() {
        MovingGuest x = Guests.on0();
        Guests.makeReady(x);
        Check.due("crash", x.crash(1), true);
        Guests.told("the move goes on", x, 0, 1, 1, 0, 1, 0, 1, 0, 9);
        Check.due("step", x.step(), 2);
        Check.due("back", x.back(1), true);
        Check.due("not ready", x.told(7), 0);
        Check.due("crash of the source", x.crash(0), true);
        Check.due("the move ended", x.told(2), 0);
        Check.due("takeOver", x.takeOver(), false);
    }

    private static void takeOverAfterCrash() {
        MovingGuest x = Guests.on0(Code.set(0, 8), Code.write(0), Code.jump(2));
        Check.due("run", x.run(0, 2), 2);
        Guests.makeReady(x);
        Check.due("takeOver from a source that holds it", x.takeOver(), false);
        Check.due("crash", x.crash(0), true);
        Guests.told("the move goes on", x, 0, 1, 1, 0, 1, 0, 1, 1, 9);
        Check.due("the target has its pages", x.memory(1, 0), Code.set(0, 8));
        Check.due("but holds none", x.holder(), NO);
        Check.due("takeOver", x.takeOver(), true);
        Guests.told("taken over", x, 1, 2, 0, NO, 0, 0, 1, 0, 0);
        Check.due("holder", x.holder(), 1);
        Check.due("register", x.guest(1, 0), 8);
        Check.due("output", x.output(1, 0), 8);
        Check.due("run", x.run(1, 4), 4);
        Check.due("TAKEN", x.deliver(0), 4);
        Check.due("number", x.told(1), 2);
        Check.due("takeOver again", x.takeOver(), false);
    }

    private static void takeOverWithRequest() {
        MovingGuest x = Guests.on0(Code.set(0, 8), Code.put(0, 2));
        Check.due("run", x.run(0, 2), 2);
        Guests.makeReady(x);
        Check.due("crash", x.crash(0), true);
        Check.due("takeOver", x.takeOver(), true);
        Check.due("disk", x.disk(1), 1);
        Check.due("block", x.block(2), 8);
    }

    private static void takeOverWhenSourceIsBack() {
        MovingGuest x = Guests.on0();
        Guests.makeReady(x);
        Check.due("crash", x.crash(0), true);
        Check.due("back", x.back(0), true);
        Check.due("the move goes on", x.told(2), 1);
        Check.due("takeOver", x.takeOver(), true);
        Check.due("holder", x.holder(), 1);
        Check.due("move back", x.move(), 2);
    }

    private static void bothCrash() {
        MovingGuest x = Guests.on0(4, 5);
        Guests.makeReady(x);
        Check.due("crash", x.crash(0), true);
        Check.due("crash", x.crash(1), true);
        Guests.told("the move ended", x, 0, 1, 0, NO, 0, 0, 1, 0, 0);
        Check.due("back", x.back(1), true);
        Check.due("takeOver", x.takeOver(), false);
        Check.due("memory", x.memory(1, 1), 0);
        Check.due("create", x.create(1), 2);
    }

    private static void takeOverRefused() {
        MovingGuest x = Guests.on0();
        Check.due("takeOver without a move", x.takeOver(), false);
        Guests.movePages(x);
        Check.due("takeOver without a state", x.takeOver(), false);
        Check.due("step", x.step(), 2);
        Check.due("takeOver with the state on its way", x.takeOver(), false);
        Check.due("number", x.told(1), 1);
    }
}
