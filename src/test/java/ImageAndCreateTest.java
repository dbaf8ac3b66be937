/** Promises 2 and 3: image and create. */
final class ImageAndCreateTest {
    private static final int BAD = MovingGuest.BAD;
    private static final int NO = MovingGuest.NO;

    public static void main(String[] args) {
        imageEdges();
        imageIsKept();
        createAnswers();
        createDuringMoveWithoutHolder();
        createIsFresh();
        createKeepsOldOrder();
        Check.end();
    }

    private static void imageEdges() {
        MovingGuest x = new MovingGuest();
        Check.due("image(-1)", x.image(-1, 1), false);
        Check.due("image(64)", x.image(64, 1), false);
        Check.due("image(least)", x.image(Integer.MIN_VALUE, 1), false);
        Check.due("image(greatest)", x.image(Integer.MAX_VALUE, 1), false);
        Check.due("image(0)", x.image(0, Integer.MIN_VALUE), true);
        Check.due("image(63)", x.image(63, Integer.MAX_VALUE), true);
        Check.due("create", x.create(0), 1);
        Check.due("memory 0", x.memory(0, 0), Integer.MIN_VALUE);
        Check.due("memory 63", x.memory(0, 63), Integer.MAX_VALUE);
        Check.due("memory 1", x.memory(0, 1), 0);
    }

    private static void imageIsKept() {
        MovingGuest x = Guests.on0(Code.set(0, 9), Code.store(0, 1, 40));
        Check.due("image under a guest", x.image(41, 7), true);
        Check.due("the guest's memory is its own", x.memory(0, 41), 0);
        Check.due("run", x.run(0, 5), 2);
        Check.due("stored", x.memory(0, 40), 9);
        Check.due("crash", x.crash(0), true);
        Check.due("create again", x.create(1), 2);
        Check.due("image is not changed by a guest", x.memory(1, 40), 0);
        Check.due("image of later", x.memory(1, 41), 7);
        Check.due("image of before", x.memory(1, 0), Code.set(0, 9));
    }

    private static void createAnswers() {
        MovingGuest x = new MovingGuest();
        Check.due("create(-1)", x.create(-1), BAD);
        Check.due("create(2)", x.create(2), BAD);
        Check.due("crash", x.crash(1), true);
        Check.due("create on a host not up", x.create(1), NO);
        Check.due("create", x.create(0), 1);
        Guests.told("created", x, 0, 1, 0);
        Check.due("holder", x.holder(), 0);
        Check.due("create where one is", x.create(0), NO);
        Check.due("back", x.back(1), true);
        Check.due("create beside", x.create(1), NO);
        Check.due("create(2) beside", x.create(2), BAD);
        Check.due("crash", x.crash(0), true);
        Guests.told("the owner stays", x, 0, 1, 0);
        Check.due("create", x.create(1), 2);
        Guests.told("created", x, 1, 2, 0);
    }

    private static void createDuringMoveWithoutHolder() {
        MovingGuest x = Guests.on0();
        Guests.makeReady(x);
        Check.due("crash", x.crash(0), true);
        Check.due("holder", x.holder(), NO);
        Check.due("a move goes on", x.told(2), 1);
        Check.due("create on the target", x.create(1), NO);
        Check.due("back", x.back(0), true);
        Check.due("create on the source", x.create(0), NO);
        Check.due("abort", x.abort(), true);
        Check.due("create", x.create(0), 2);
    }

    /** A guest that ran before on the same host leaves nothing to the next one. */
    private static void createIsFresh() {
        MovingGuest x = Guests.on0(Code.set(0, 1), Code.set(1, 2), Code.set(2, 3), Code.set(3, 200),
                Code.timer(3), Code.write(0), Code.put(1, 4));
        Check.due("input", x.input(0, 8), 1);
        Check.due("run", x.run(0, 9), 7);
        Check.due("crash", x.crash(0), true);
        Check.due("back", x.back(0), true);
        Check.due("create", x.create(0), 2);
        for (int what = 0; what < 10; what++) {
            Check.due("guest(0, " + what + ")", x.guest(0, what), 0);
        }
        Check.due("output", x.output(0, 0), 0);
        Check.due("disk", x.disk(0), NO);
    }

    /** The order of a guest that went away is too old for the disk, and is no order of the new one. */
    private static void createKeepsOldOrder() {
        MovingGuest x = Guests.on0(Code.set(0, 6), Code.put(0, 1));
        Check.due("run", x.run(0, 2), 2);
        Guests.wholeMove(x);
        Check.due("crash", x.crash(1), true);
        Check.due("create", x.create(0), 3);
        Check.due("disk with the old order", x.disk(0), 0);
        Check.due("disk again", x.disk(0), NO);
        Check.due("block", x.block(1), 0);
    }
}
