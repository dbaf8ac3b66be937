/** Terms, "A HOST CRASHES", and promises 13, 14, 15 and 19: the crash that ends a move, and the one that does not. */
final class CrashBoundsTest {
    private static final int NO = MovingGuest.NO;
    private static final int[] NO_HOSTS = {-1, 2, 3, Integer.MIN_VALUE, Integer.MAX_VALUE};

    public static void main(String[] args) {
        noSuchHost();
        crashOfAHostNotUp();
        backOfAHostThatIsUp();
        crashOfTheHolder();
        crashBesideTheHolder();
        crashTakesTheOrder();
        crashLeavesTheOtherOrder();
        sourceCrashesAtOnce();
        sourceCrashesBeforeTheStateArrives();
        sourceCrashesWithAReadyTarget();
        sourceCrashesWithoutTarget();
        targetCrashes();
        readyTargetCrashes();
        readyTargetCrashesAndTheSourceToo();
        sourceCrashesAndTheReadyTargetToo();
        sourceIsBackAndTheReadyTargetCrashes();
        sourceThatIsBackCrashesAgain();
        takeOverWithoutMove();
        takeOverFromAHolder();
        takeOverOfATargetNotReady();
        takeOverOnce();
        takeOverFromASourceThatIsBack();
        takeOverWithRequest();
        takeOverAfterAbort();
        Check.end();
    }

    private static void noSuchHost() {
        Check.sentence("crash, back: false when there is no such host; isUp");
        MovingGuest x = Guests.on0();
        Check.unchanged(x, () -> {
            for (int host : NO_HOSTS) {
                Check.due("crash(" + host + ")", x.crash(host), false);
                Check.due("back(" + host + ")", x.back(host), false);
                Check.due("isUp(" + host + ")", x.isUp(host), false);
            }
        });
        Check.due("crash(0)", x.crash(0), true);
        Check.due("crash(1)", x.crash(1), true);
        Check.unchanged(x, () -> {
            for (int host : NO_HOSTS) {
                Check.due("back(" + host + ") with none up", x.back(host), false);
            }
        });
    }

    private static void crashOfAHostNotUp() {
        Check.sentence("crash: false when it is not up");
        for (int host = 0; host < 2; host++) {
            MovingGuest x = new MovingGuest();
            int down = host;
            Check.due("isUp", x.isUp(down), true);
            Check.due("crash", x.crash(down), true);
            Check.due("isUp", x.isUp(down), false);
            Check.due("isUp of the other", x.isUp(1 - down), true);
            Check.unchanged(x, () -> Check.due("crash again", x.crash(down), false));
            Check.due("back", x.back(down), true);
            Check.due("crash of a host that is back", x.crash(down), true);
        }
    }

    private static void backOfAHostThatIsUp() {
        Check.sentence("back: false when it is up");
        for (int host = 0; host < 2; host++) {
            MovingGuest x = Guests.on0();
            int up = host;
            Check.unchanged(x, () -> Check.due("back", x.back(up), false));
            Check.due("crash", x.crash(up), true);
            Check.due("back", x.back(up), true);
            Check.due("isUp", x.isUp(up), true);
            Check.unchanged(x, () -> Check.due("back again", x.back(up), false));
        }
    }

    private static void crashOfTheHolder() {
        Check.sentence("it holds no guest");
        MovingGuest x = Guests.on0(Code.set(0, 8), Code.write(0));
        Check.due("run", x.run(0, 100), 2);
        Check.due("crash", x.crash(0), true);
        Check.due("holder", x.holder(), NO);
        Guests.told("the owner and the number stay", x, 0, 1, 0, NO, 0, 0, 0, 0, 0);
        Guests.guest("none", x, 0, 0, 0, 0, 0, 0, 0, 0, 0, 0, 0);
        Check.due("output", x.output(0, 0), 0);
        Check.due("memory", x.memory(0, 0), 0);
        Check.unchanged(x, () -> Check.due("run", x.run(0, 1), NO));
        Check.due("back", x.back(0), true);
        Check.due("holder", x.holder(), NO);
        Check.due("memory", x.memory(0, 0), 0);
    }

    private static void crashBesideTheHolder() {
        Check.sentence("a host crashes (the other one goes on)");
        MovingGuest x = Guests.on0(Code.jump(0));
        Check.due("crash", x.crash(1), true);
        Check.due("holder", x.holder(), 0);
        Guests.runs(x, 0, 1);
        Check.due("input", x.input(0, 1), 1);
    }

    private static MovingGuest asking() {
        MovingGuest x = Guests.on0(Code.set(0, 8), Code.put(0, 2));
        Check.due("run", x.run(0, 100), 2);
        return x;
    }

    private static void crashTakesTheOrder() {
        Check.sentence("it has no order");
        MovingGuest x = asking();
        Check.due("crash", x.crash(0), true);
        Check.due("back", x.back(0), true);
        Check.due("disk", x.disk(0), NO);
        Check.due("block", x.block(2), 0);
        x = asking();
        Guests.wholeMove(x);
        Check.due("crash of the old host", x.crash(0), true);
        Check.due("back", x.back(0), true);
        Check.due("its old order is gone", x.disk(0), NO);
    }

    private static void crashLeavesTheOtherOrder() {
        Check.sentence("a host crashes (the order of the other one stays)");
        MovingGuest x = asking();
        Guests.wholeMove(x);
        Check.due("crash", x.crash(0), true);
        Check.due("disk", x.disk(1), 1);
        x = asking();
        Guests.wholeMove(x);
        Check.due("crash", x.crash(1), true);
        Check.due("the old order, too old", x.disk(0), 0);
    }

    private static void ended(MovingGuest x, int pieces) {
        Guests.told("the move ended", x, 0, 1, 0, NO, 0, 0, pieces, 0, 0);
        Check.due("no pages at the target", x.memory(1, 0), 0);
        Check.due("holder", x.holder(), NO);
        Check.due("takeOver", x.takeOver(), false);
        Check.due("abort", x.abort(), false);
        Check.due("step", x.step(), NO);
    }

    private static void sourceCrashesAtOnce() {
        Check.sentence("when the source holds no guest any more, and its target is not ready, the move ends");
        MovingGuest x = Guests.on0(5);
        Check.due("move", x.move(), 1);
        Check.due("crash", x.crash(0), true);
        ended(x, 0);
        Check.due("create", x.create(1), 2);
    }

    private static void sourceCrashesBeforeTheStateArrives() {
        Check.sentence("and its target is not ready (the state is on its way): the move ends");
        MovingGuest x = Guests.on0(5);
        Guests.movePages(x);
        Check.due("step", x.step(), 2);
        Check.due("pages at the target", x.memory(1, 0), 5);
        Check.due("crash", x.crash(0), true);
        ended(x, 1);
        Check.due("deliver STATE", x.deliver(0), 2);
        ended(x, 0);
    }

    private static void sourceCrashesWithAReadyTarget() {
        Check.sentence("and its target is not ready (it is): the move goes on");
        MovingGuest x = Guests.on0(5);
        Guests.makeReady(x);
        Check.due("crash", x.crash(0), true);
        Guests.told("it goes on", x, 0, 1, 1, 0, 1, 0, 1, 1, 9);
        Check.due("pages at the target", x.memory(1, 0), 5);
        Check.due("holder", x.holder(), NO);
        Check.due("takeOver", x.takeOver(), true);
    }

    private static void sourceCrashesWithoutTarget() {
        Check.sentence("and its target is not ready (it is not up): the move ends");
        MovingGuest x = Guests.on0(5);
        Check.due("move", x.move(), 1);
        Check.due("crash of the target", x.crash(1), true);
        Check.due("the move goes on", x.told(2), 1);
        Check.due("crash of the source", x.crash(0), true);
        ended(x, 0);
        Check.due("back", x.back(1), true);
        Check.due("create", x.create(1), 2);
    }

    private static void targetCrashes() {
        Check.sentence("takes no part in a move any more (the source holds the guest: the move goes on)");
        MovingGuest x = Guests.on0(Code.jump(0));
        Check.due("move", x.move(), 1);
        Guests.pages(x, 2);
        Check.due("crash", x.crash(1), true);
        Guests.told("it goes on", x, 0, 1, 1, 0, 0, 6, 0, 0, 2);
        Check.due("no pages at the target", x.memory(1, 0), 0);
        Guests.runs(x, 0, 1);
        Check.due("step", x.step(), 1);
        Check.due("back", x.back(1), true);
        Check.due("no pages at the target", x.memory(1, 0), 0);
        Check.due("deliver", x.deliver(0), 1);
        Check.due("no SEEN", x.told(6), 0);
        Check.due("abort", x.abort(), true);
        Guests.wholeMove(x);
        Check.due("the next move", x.holder(), 1);
    }

    private static void readyTargetCrashes() {
        Check.sentence("nor is it ready then (the source holds the guest: the move goes on)");
        MovingGuest x = Guests.on0(5);
        Guests.makeReady(x);
        Check.due("crash", x.crash(1), true);
        Guests.told("it goes on", x, 0, 1, 1, 0, 1, 0, 1, 0, 9);
        Check.due("the source holds the guest", x.holder(), 0);
        Check.due("no pages at the target", x.memory(1, 0), 0);
        Check.due("the state again", x.step(), 2);
        Check.due("back", x.back(1), true);
        Check.due("not ready", x.told(7), 0);
        Check.due("takeOver", x.takeOver(), false);
    }

    private static void readyTargetCrashesAndTheSourceToo() {
        Check.sentence("nor is it ready then; so the source's crash ends the move");
        MovingGuest x = Guests.on0(5);
        Guests.makeReady(x);
        Check.due("crash of the target", x.crash(1), true);
        Check.due("back", x.back(1), true);
        Check.due("crash of the source", x.crash(0), true);
        ended(x, 1);
    }

    private static void sourceCrashesAndTheReadyTargetToo() {
        Check.sentence("when the source holds no guest any more, and its target is not ready (any more)");
        MovingGuest x = Guests.on0(5);
        Guests.makeReady(x);
        Check.due("crash of the source", x.crash(0), true);
        Check.due("the move goes on", x.told(2), 1);
        Check.due("crash of the target", x.crash(1), true);
        ended(x, 1);
    }

    private static void sourceIsBackAndTheReadyTargetCrashes() {
        Check.sentence("the source holds no guest any more (though it is up again)");
        MovingGuest x = Guests.on0(5);
        Guests.makeReady(x);
        Check.due("crash of the source", x.crash(0), true);
        Check.due("back", x.back(0), true);
        Check.due("the move goes on", x.told(2), 1);
        Check.due("crash of the target", x.crash(1), true);
        ended(x, 1);
        Check.due("create", x.create(0), 2);
    }

    private static void sourceThatIsBackCrashesAgain() {
        Check.sentence("its target is ready: no crash of the source ends the move");
        MovingGuest x = Guests.on0(5);
        Guests.makeReady(x);
        Check.due("crash of the source", x.crash(0), true);
        Check.due("back", x.back(0), true);
        Check.due("crash of the source", x.crash(0), true);
        Guests.told("it goes on", x, 0, 1, 1, 0, 1, 0, 1, 1, 9);
        Check.due("takeOver", x.takeOver(), true);
        Check.due("holder", x.holder(), 1);
    }

    private static void takesOverNot(MovingGuest x) {
        Check.unchanged(x, () -> Check.due("takeOver", x.takeOver(), false));
    }

    private static void takeOverWithoutMove() {
        Check.sentence("takeOver: false when it is not so: no move");
        takesOverNot(new MovingGuest());
        MovingGuest x = Guests.on0();
        takesOverNot(x);
        Guests.wholeMove(x);
        takesOverNot(x);
        Check.due("crash", x.crash(1), true);
        takesOverNot(x);
    }

    private static void takeOverFromAHolder() {
        Check.sentence("takeOver: from a source that holds none any more");
        MovingGuest x = Guests.on0();
        Guests.makeReady(x);
        takesOverNot(x);
        Check.due("crash of the source", x.crash(0), true);
        Check.due("takeOver", x.takeOver(), true);
    }

    private static void takeOverOfATargetNotReady() {
        Check.sentence("takeOver: the target of a move that is ready");
        MovingGuest x = Guests.on0();
        Guests.movePages(x);
        takesOverNot(x);
        Check.due("step", x.step(), 2);
        takesOverNot(x);
        Check.due("crash of the source", x.crash(0), true);
        takesOverNot(x);
    }

    private static void takeOverOnce() {
        Check.sentence("takeOver: THE HAND-OVER: true");
        MovingGuest x = Guests.on0(Code.set(0, 8), Code.jump(1));
        Guests.runs(x, 0, 1);
        Guests.makeReady(x);
        Check.due("crash of the source", x.crash(0), true);
        Check.due("takeOver", x.takeOver(), true);
        Guests.told("taken over", x, 1, 2, 0, NO, 0, 0, 1, 0, 0);
        Check.due("holder", x.holder(), 1);
        Check.due("register 0", x.guest(1, 0), 8);
        Guests.runs(x, 1, 1);
        takesOverNot(x);
        Check.due("no order", x.disk(1), NO);
    }

    private static void takeOverFromASourceThatIsBack() {
        Check.sentence("takeOver: a source that holds none any more (though it is up again)");
        MovingGuest x = Guests.on0();
        Guests.makeReady(x);
        Check.due("crash of the source", x.crash(0), true);
        Check.due("back", x.back(0), true);
        Check.due("takeOver", x.takeOver(), true);
        Check.due("holder", x.holder(), 1);
        Check.due("the next move", x.move(), 2);
        Check.due("its source", x.told(3), 1);
    }

    private static void takeOverWithRequest() {
        Check.sentence("takeOver: the target gets the order for it with that number");
        MovingGuest x = asking();
        Guests.makeReady(x);
        Check.due("crash of the source", x.crash(0), true);
        Check.due("no order yet", x.disk(1), NO);
        Check.due("takeOver", x.takeOver(), true);
        Check.due("disk", x.disk(1), 1);
        Check.due("block", x.block(2), 8);
        Check.due("no request", x.guest(1, 9), 0);
    }

    private static void takeOverAfterAbort() {
        Check.sentence("a move that ends goes on no more, and nobody takes part in it");
        MovingGuest x = Guests.on0();
        Guests.makeReady(x);
        Check.due("abort", x.abort(), true);
        takesOverNot(x);
        Check.due("crash of the source", x.crash(0), true);
        takesOverNot(x);
        Check.due("create", x.create(1), 3);
    }
}
