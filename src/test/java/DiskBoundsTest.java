/** Promises 6, 12 and 23, and the orders: what the disk takes, and what it takes no more. */
final class DiskBoundsTest {
    private static final int BAD = MovingGuest.BAD;
    private static final int NO = MovingGuest.NO;
    private static final int LEAST = Integer.MIN_VALUE;
    private static final int GREATEST = Integer.MAX_VALUE;

    public static void main(String[] args) {
        diskWithoutHost();
        diskOfAHostNotUp();
        diskWithoutOrder();
        diskWhenStopped();
        diskWithTheWitnessNumber();
        diskWithTheNumberBefore();
        diskWithAMuchOlderNumber();
        diskOfATarget();
        orderInPlaceOfAnOldOne();
        orderByHandOverInPlaceOfAnOldOne();
        orderByAbortInPlaceOfAnOldOne();
        orderOfEachRequest();
        wordsOfABlock();
        blockIndex();
        abortWithoutMove();
        abortBeforeTheStop();
        abortAfterTheStop();
        abortWithoutRequest();
        abortWithoutGuest();
        Check.end();
    }

    /** The guest has the request to put 70 to block 3, and waits with another one for block 4. */
    private static MovingGuest asking() {
        MovingGuest x = Guests.on0(Code.set(0, 70), Code.put(0, 3), Code.put(0, 4), Code.put(0, 5));
        Check.due("run", x.run(0, 100), 2);
        return x;
    }

    private static void diskWithoutHost() {
        Check.sentence("disk: BAD");
        MovingGuest x = asking();
        Check.unchanged(x, () -> {
            for (int host : new int[] {-1, 2, 3, LEAST, GREATEST}) {
                Check.due("disk(" + host + ")", x.disk(host), BAD);
            }
        });
        Check.due("disk(0)", x.disk(0), 1);
    }

    private static void diskOfAHostNotUp() {
        Check.sentence("disk: NO when the host is not up");
        MovingGuest x = asking();
        Check.due("crash", x.crash(0), true);
        Check.unchanged(x, () -> Check.due("disk", x.disk(0), NO));
        Check.due("back", x.back(0), true);
        Check.unchanged(x, () -> Check.due("has none", x.disk(0), NO));
    }

    private static void diskWithoutOrder() {
        Check.sentence("disk: NO when it has none");
        MovingGuest x = Guests.on0(Code.set(0, 70), Code.put(0, 3));
        Check.due("before the request", x.disk(0), NO);
        Guests.runs(x, 0, 1);
        Check.due("before the request", x.disk(0), NO);
        Guests.runs(x, 0, 1);
        Check.due("the other host", x.disk(1), NO);
        Check.due("after it", x.disk(0), 1);
        Check.unchanged(x, () -> Check.due("it is gone then", x.disk(0), NO));
    }

    private static void diskWhenStopped() {
        Check.sentence("disk: NO when it holds a guest that is stopped");
        MovingGuest x = asking();
        Guests.movePages(x);
        Check.due("before the stop", x.disk(0), 1);
        Check.due("a request again", x.run(0, 100), 1);
        Check.due("step", x.step(), 2);
        Check.due("stopped", x.told(4), 1);
        Check.unchanged(x, () -> Check.due("disk", x.disk(0), NO));
        Check.due("deliver", x.deliver(0), 2);
        Check.due("still", x.disk(0), NO);
        Check.due("hand-over", x.deliver(0), 4);
        Check.due("the source holds none: its order is too old", x.disk(0), 0);
        Check.due("the target", x.disk(1), 1);
    }

    private static void diskWithTheWitnessNumber() {
        Check.sentence("disk: 1, if its number is the witness's");
        MovingGuest x = asking();
        Check.due("disk", x.disk(0), 1);
        Check.due("the block is the word", x.block(3), 70);
        Check.due("no request any more", x.guest(0, 9), 0);
        Check.due("the order is gone", x.disk(0), NO);
        Check.due("crash", x.crash(0), true);
        Check.due("create", x.create(1), 2);
        Check.due("run", x.run(1, 100), 2);
        Check.due("an order with number 2", x.disk(1), 1);
        Check.due("number", x.told(1), 2);
    }

    private static void diskWithTheNumberBefore() {
        Check.sentence("disk: 0 if not: then nothing else is done");
        MovingGuest x = asking();
        Guests.wholeMove(x);
        Check.due("number", x.told(1), 2);
        Check.unchanged(x, () -> Check.due("the order of number 1", x.disk(0), 0));
        Check.due("block 3", x.block(3), 0);
        Check.due("the request stays", x.guest(1, 9), 1);
        Check.due("it is gone then", x.disk(0), NO);
        Check.due("the order of number 2", x.disk(1), 1);
    }

    /** Host 0 has an order of number 1 and holds the guest, which came back with no request, at number 3. */
    private static MovingGuest oldOrderAtTheHolder() {
        MovingGuest x = asking();
        Guests.wholeMove(x);
        Check.due("disk", x.disk(1), 1);
        Guests.wholeMove(x);
        Guests.told("back at host 0", x, 0, 3);
        Check.due("no request", x.guest(0, 9), 0);
        return x;
    }

    private static void diskWithAMuchOlderNumber() {
        Check.sentence("disk: 0 if not (the host of the old order holds the guest again)");
        MovingGuest x = oldOrderAtTheHolder();
        Check.unchanged(x, () -> Check.due("the order of number 1", x.disk(0), 0));
        Check.due("it is gone then", x.disk(0), NO);
        Check.due("block 3 has the word of number 2", x.block(3), 70);
    }

    private static void diskOfATarget() {
        Check.sentence("disk: 0 if not (the host of the old order is the target, and ready)");
        MovingGuest x = asking();
        Guests.wholeMove(x);
        Guests.makeReady(x);
        Check.unchanged(x, () -> Check.due("the order of number 1", x.disk(0), 0));
        Check.due("the source is stopped", x.disk(1), NO);
        Check.due("hand-over", x.deliver(0), 4);
        Check.due("the request moved", x.guest(0, 9), 1);
        Check.due("with its order", x.disk(0), 1);
    }

    private static void orderInPlaceOfAnOldOne() {
        Check.sentence("its host gets the order (in place of one that it has): by a request");
        MovingGuest x = oldOrderAtTheHolder();
        Guests.runs(x, 0, 1);
        Check.due("the new order", x.disk(0), 1);
        Check.due("block 4", x.block(4), 70);
        Check.due("no other", x.disk(0), NO);
    }

    private static void orderByHandOverInPlaceOfAnOldOne() {
        Check.sentence("the target gets the order for it with that number (in place of an old one)");
        MovingGuest x = asking();
        Guests.wholeMove(x);
        Guests.wholeMove(x);
        Guests.told("back at host 0", x, 0, 3);
        Check.due("host 0", x.disk(0), 1);
        Check.due("block 3", x.block(3), 70);
        Check.due("no other", x.disk(0), NO);
        Check.due("host 1 is too late", x.disk(1), 0);
    }

    private static void orderByAbortInPlaceOfAnOldOne() {
        Check.sentence("abort: the source gets the order for it with that number (in place of an old one)");
        MovingGuest x = asking();
        Check.due("move", x.move(), 1);
        Check.due("abort", x.abort(), true);
        Check.due("move", x.move(), 2);
        Check.due("abort", x.abort(), true);
        Check.due("number", x.told(1), 3);
        Check.due("disk", x.disk(0), 1);
        Check.due("block 3", x.block(3), 70);
        Check.due("no request", x.guest(0, 9), 0);
        Check.due("no other", x.disk(0), NO);
    }

    private static void orderOfEachRequest() {
        Check.sentence("a host has at most one ORDER at the disk");
        MovingGuest x = asking();
        for (int block = 3; block <= 5; block++) {
            Check.due("waits", x.run(0, 100), 0);
            Check.due("disk", x.disk(0), 1);
            Check.due("block " + block, x.block(block), 70);
            Check.due("the next block", x.block(block + 1), 0);
            Check.due("no other", x.disk(0), NO);
            Check.due("the next request", x.run(0, 100), block == 5 ? 0 : 1);
        }
    }

    private static void wordsOfABlock() {
        Check.sentence("the block is the word");
        int[] words = {0, -1, LEAST, GREATEST};
        for (int word : words) {
            MovingGuest x = Guests.on0With(word, 0, Code.set(0, 5), Code.put(0, 7), Code.load(0, 1, 40),
                    Code.put(0, 7), Code.set(0, 6), Code.get(1, 7));
            Check.due("run", x.run(0, 100), 3);
            Check.due("disk", x.disk(0), 1);
            Check.due("block 7", x.block(7), 5);
            Check.due("run", x.run(0, 100), 2);
            Check.due("the block waits for the disk", x.block(7), 5);
            Check.due("disk", x.disk(0), 1);
            Check.due("the word as it was asked for", x.block(7), word);
            Guests.runs(x, 0, 1);
            Check.due("read", x.guest(0, 1), word);
        }
    }

    private static void blockIndex() {
        Check.sentence("block: 0 when there is none such");
        MovingGuest x = Guests.on0(Code.set(0, 9), Code.put(0, 0), Code.put(0, 7));
        Check.due("run", x.run(0, 100), 2);
        Check.due("disk", x.disk(0), 1);
        Check.due("run", x.run(0, 100), 1);
        Check.due("disk", x.disk(0), 1);
        Check.due("block(0)", x.block(0), 9);
        Check.due("block(7)", x.block(7), 9);
        for (int i : new int[] {-1, 8, 9, 15, 16, LEAST, GREATEST}) {
            Check.due("block(" + i + ")", x.block(i), 0);
        }
    }

    private static void abortWithoutMove() {
        Check.sentence("abort: false when no move goes on");
        MovingGuest x = new MovingGuest();
        Check.unchanged(x, () -> Check.due("abort of nothing", x.abort(), false));
        MovingGuest y = asking();
        Check.unchanged(y, () -> Check.due("abort before a move", y.abort(), false));
        Check.due("move", y.move(), 1);
        Check.due("abort", y.abort(), true);
        Check.unchanged(y, () -> Check.due("abort again", y.abort(), false));
        Guests.wholeMove(y);
        Check.unchanged(y, () -> Check.due("abort after the hand-over", y.abort(), false));
        MovingGuest z = Guests.on0();
        Check.due("move", z.move(), 1);
        Check.due("crash of the source", z.crash(0), true);
        Check.unchanged(z, () -> Check.due("abort of a move that ended", z.abort(), false));
    }

    private static void abortBeforeTheStop() {
        Check.sentence("abort: the witness's number is one more, and the source gets the order (no stop yet)");
        MovingGuest x = asking();
        Check.due("move", x.move(), 1);
        Guests.pages(x, 7);
        Check.due("abort", x.abort(), true);
        Guests.told("aborted", x, 0, 2, 0, NO, 0, 0, 0, 0, 0);
        Check.due("memory at the old target", x.memory(1, 0), 0);
        Check.due("disk with the new number", x.disk(0), 1);
    }

    private static void abortAfterTheStop() {
        Check.sentence("abort: this is no more stopped");
        MovingGuest x = asking();
        Guests.makeReady(x);
        Check.due("stopped", x.run(0, 1), NO);
        Check.due("abort", x.abort(), true);
        Guests.told("aborted", x, 0, 2, 0, NO, 0, 0, 1, 0, 0);
        Check.due("runs, and waits", x.run(0, 1), 0);
        Check.due("disk with the new number", x.disk(0), 1);
        Check.due("runs", x.run(0, 1), 1);
        Check.due("an order with the same number", x.disk(0), 1);
    }

    private static void abortWithoutRequest() {
        Check.sentence("abort: if the guest has a request (and else no order)");
        MovingGuest x = asking();
        Check.due("disk", x.disk(0), 1);
        Check.due("move", x.move(), 1);
        Check.due("abort", x.abort(), true);
        Check.due("number", x.told(1), 2);
        Check.due("no order", x.disk(0), NO);
        Check.due("run", x.run(0, 1), 1);
        Check.due("an order with number 2", x.disk(0), 1);
    }

    private static void abortWithoutGuest() {
        Check.sentence("abort: if its source holds the guest (and else the move ends alone)");
        MovingGuest x = asking();
        Guests.makeReady(x);
        Check.due("crash of the source", x.crash(0), true);
        Check.due("the move goes on", x.told(2), 1);
        Check.due("abort", x.abort(), true);
        Guests.told("aborted", x, 0, 1, 0, NO, 0, 0, 1, 0, 0);
        Check.due("holder", x.holder(), NO);
        Check.due("memory at the old target", x.memory(1, 0), 0);
        Check.due("back", x.back(0), true);
        Check.due("no order", x.disk(0), NO);
        Check.due("none at the target", x.disk(1), NO);
        Check.due("takeOver", x.takeOver(), false);
    }
}
