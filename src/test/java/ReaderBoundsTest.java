/** Promises 16, 17 and 20 to 22: what is read at the bounds, and where there is nothing. */
final class ReaderBoundsTest {
    private static final int BAD = MovingGuest.BAD;
    private static final int NO = MovingGuest.NO;
    private static final int LEAST = Integer.MIN_VALUE;
    private static final int GREATEST = Integer.MAX_VALUE;
    private static final int[] NO_HOSTS = {-1, 2, 3, LEAST, GREATEST};

    public static void main(String[] args) {
        holder();
        toldWhat();
        toldOwner();
        toldMove();
        toldStopped();
        toldPagesNotKnown();
        toldPieces();
        toldReady();
        guestWhat();
        guestOfNone();
        guestOfATarget();
        memoryIndex();
        memoryOfNone();
        memoryOfATarget();
        memoryOfAnOldTarget();
        outputIndex();
        outputOfNone();
        readingChangesNothing();
        Check.end();
    }

    private static void holder() {
        Check.sentence("the host that holds a guest; NO when none does");
        for (int host = 0; host < 2; host++) {
            MovingGuest x = new MovingGuest();
            Check.due("none", x.holder(), NO);
            Check.due("create", x.create(host), 1);
            Check.due("created", x.holder(), host);
            Guests.makeReady(x);
            Check.due("a ready target holds none", x.holder(), host);
            Check.due("deliver", x.deliver(0), 4);
            Check.due("handed over", x.holder(), 1 - host);
            Check.due("crash", x.crash(1 - host), true);
            Check.due("none", x.holder(), NO);
        }
    }

    private static void toldWhat() {
        Check.sentence("told: BAD for others");
        MovingGuest x = Guests.on0();
        Check.due("move", x.move(), 1);
        Check.due("step", x.step(), 1);
        Guests.told("0 to 8", x, 0, 1, 1, 0, 0, 8, 1, 0, 1);
        for (int what : new int[] {-1, 9, 10, LEAST, GREATEST}) {
            Check.due("told(" + what + ")", x.told(what), BAD);
        }
    }

    private static void toldOwner() {
        Check.sentence("0: the owner (NO: none)");
        MovingGuest x = new MovingGuest();
        Check.due("none", x.told(0), NO);
        Check.due("crash", x.crash(0), true);
        Check.due("none", x.told(0), NO);
        Check.due("create", x.create(1), 1);
        Check.due("host 1", x.told(0), 1);
        Check.due("crash", x.crash(1), true);
        Check.due("still", x.told(0), 1);
    }

    private static void toldMove() {
        Check.sentence("2: the number of the move that goes on (0: none). 3: its source (NO: none)");
        MovingGuest x = new MovingGuest();
        Check.due("create", x.create(1), 1);
        Check.due("no move", x.told(2), 0);
        Check.due("no source", x.told(3), NO);
        Check.due("move", x.move(), 1);
        Check.due("move 1", x.told(2), 1);
        Check.due("from host 1", x.told(3), 1);
        Check.due("abort", x.abort(), true);
        Check.due("no move", x.told(2), 0);
        Check.due("no source", x.told(3), NO);
        Guests.wholeMove(x);
        Check.due("no move", x.told(2), 0);
        Check.due("move", x.move(), 3);
        Check.due("move 3", x.told(2), 3);
        Check.due("from host 0", x.told(3), 0);
    }

    private static void toldStopped() {
        Check.sentence("4: 1 from where the guest is stopped until the move ends");
        MovingGuest x = Guests.on0();
        Guests.movePages(x);
        Check.due("not yet", x.told(4), 0);
        Check.due("step", x.step(), 2);
        Check.due("stopped", x.told(4), 1);
        Check.due("deliver", x.deliver(0), 2);
        Check.due("still", x.told(4), 1);
        Check.due("crash of the source", x.crash(0), true);
        Check.due("still, for the move goes on", x.told(4), 1);
        Check.due("takeOver", x.takeOver(), true);
        Check.due("no more", x.told(4), 0);
        x = Guests.on0();
        Guests.wholeMove(x);
        Check.due("no more", x.told(4), 0);
        Guests.movePages(x);
        Check.due("not yet in the next", x.told(4), 0);
        Check.due("step", x.step(), 2);
        Check.due("abort", x.abort(), true);
        Check.due("no more", x.told(4), 0);
    }

    private static void toldPagesNotKnown() {
        Check.sentence("5: how many pages are not known (0 when no move goes on). 8: steps (0 likewise)");
        MovingGuest x = Guests.on0();
        Check.due("no move", x.told(5), 0);
        Check.due("no move", x.told(8), 0);
        Check.due("move", x.move(), 1);
        for (int known = 0; known < 8; known++) {
            Check.due("not known", x.told(5), 8 - known);
            Check.due("steps", x.told(8), known);
            Guests.pages(x, 1);
        }
        Check.due("all are known", x.told(5), 0);
        Check.due("steps", x.told(8), 8);
        Check.due("abort", x.abort(), true);
        Check.due("no move", x.told(8), 0);
        Check.due("move", x.move(), 2);
        Check.due("step", x.step(), 1);
        Check.due("crash of the source", x.crash(0), true);
        Check.due("no move", x.told(5), 0);
        Check.due("no move", x.told(8), 0);
    }

    private static void toldPieces() {
        Check.sentence("6: how many pieces the link has");
        MovingGuest x = Guests.on0();
        Check.due("none", x.told(6), 0);
        Check.due("move", x.move(), 1);
        for (int n = 1; n <= 8; n++) {
            Check.due("step", x.step(), 1);
            Check.due("pieces", x.told(6), n);
        }
        Check.due("step", x.step(), 3);
        Check.due("step", x.step(), 1);
        Check.due("8 at most", x.told(6), 8);
        Check.due("abort", x.abort(), true);
        Check.due("they stay when the move ends", x.told(6), 8);
        Guests.loses(x, 8);
        Check.due("none", x.told(6), 0);
    }

    private static void toldReady() {
        Check.sentence("7: 1 if the target is ready");
        MovingGuest x = Guests.on0();
        Guests.movePages(x);
        Check.due("step", x.step(), 2);
        Check.due("not yet", x.told(7), 0);
        Check.due("deliver", x.deliver(0), 2);
        Check.due("ready", x.told(7), 1);
        Check.due("deliver", x.deliver(0), 4);
        Check.due("no move", x.told(7), 0);
        Check.due("move", x.move(), 2);
        Check.due("not in the next", x.told(7), 0);
        Check.due("abort", x.abort(), true);
        Guests.makeReady(x);
        Check.due("abort", x.abort(), true);
        Check.due("no move", x.told(7), 0);
        Check.due("move", x.move(), 4);
        Check.due("not in the next", x.told(7), 0);
    }

    /** A guest with something in each part. */
    private static MovingGuest full() {
        MovingGuest x = Guests.on0(Code.set(0, 11), Code.set(1, 12), Code.set(2, 13), Code.set(3, 14), Code.timer(3),
                Code.write(0), Code.write(1), Code.write(2), Code.put(0, 0));
        Check.due("input", x.input(0, 1), 1);
        Check.due("input", x.input(0, 2), 2);
        Check.due("run", x.run(0, 100), 9);
        return x;
    }

    private static void guestWhat() {
        Check.sentence("guest: 0 for another what");
        MovingGuest x = full();
        Guests.guest("0 to 9", x, 0, 11, 12, 13, 14, 9, 10, 9, 2, 3, 1);
        for (int what : new int[] {-1, 10, 11, LEAST, GREATEST}) {
            Check.due("guest(0, " + what + ")", x.guest(0, what), 0);
        }
        Check.due("disk", x.disk(0), 1);
        Check.due("0 if it has no request", x.guest(0, 9), 0);
    }

    private static void guestOfNone() {
        Check.sentence("guest: 0 when it holds none");
        MovingGuest x = full();
        for (int what = -1; what <= 10; what++) {
            Check.due("guest(1, " + what + ")", x.guest(1, what), 0);
            for (int host : NO_HOSTS) {
                Check.due("guest(" + host + ", " + what + ")", x.guest(host, what), 0);
            }
        }
        Check.due("crash", x.crash(0), true);
        Guests.guest("crashed", x, 0, 0, 0, 0, 0, 0, 0, 0, 0, 0, 0);
    }

    private static void guestOfATarget() {
        Check.sentence("of the guest that a host holds (a ready target holds none)");
        MovingGuest x = full();
        Guests.makeReady(x);
        Guests.guest("the target", x, 1, 0, 0, 0, 0, 0, 0, 0, 0, 0, 0);
        Guests.guest("the source", x, 0, 11, 12, 13, 14, 9, 10, 9, 2, 3, 1);
        Check.due("deliver", x.deliver(0), 4);
        Guests.guest("the new host", x, 1, 11, 12, 13, 14, 9, 10, 9, 2, 3, 1);
        Guests.guest("the old host", x, 0, 0, 0, 0, 0, 0, 0, 0, 0, 0, 0);
    }

    private static MovingGuest filled(int host) {
        MovingGuest x = new MovingGuest();
        for (int i = 0; i < 64; i++) {
            Check.due("image", x.image(i, 1000 + i), true);
        }
        Check.due("create", x.create(host), 1);
        return x;
    }

    private static void memoryIndex() {
        Check.sentence("memory: 0 when there is no such word");
        for (int host = 0; host < 2; host++) {
            MovingGuest x = filled(host);
            Check.due("memory(0)", x.memory(host, 0), 1000);
            Check.due("memory(63)", x.memory(host, 63), 1063);
            for (int i : new int[] {-1, 64, 65, 127, 128, LEAST, GREATEST}) {
                Check.due("memory(" + i + ")", x.memory(host, i), 0);
            }
        }
    }

    private static void memoryOfNone() {
        Check.sentence("memory: 0 when there is neither");
        MovingGuest x = filled(0);
        for (int i : new int[] {-1, 0, 63, 64}) {
            Check.due("memory(1, " + i + ")", x.memory(1, i), 0);
            for (int host : NO_HOSTS) {
                Check.due("memory(" + host + ", " + i + ")", x.memory(host, i), 0);
            }
        }
        Check.due("crash", x.crash(0), true);
        Check.due("memory(0, 0)", x.memory(0, 0), 0);
        Check.due("memory(0, 63)", x.memory(0, 63), 0);
    }

    private static void memoryOfATarget() {
        Check.sentence("memory: of that of which it has pages as a target");
        MovingGuest x = filled(0);
        Check.due("move", x.move(), 1);
        for (int page = 0; page < 8; page++) {
            Check.due("step", x.step(), 1);
            Check.due("first word before", x.memory(1, 8 * page), 0);
            Check.due("last word before", x.memory(1, 8 * page + 7), 0);
            Check.due("deliver", x.deliver(0), 1);
            for (int i = 0; i < 8; i++) {
                Check.due("word", x.memory(1, 8 * page + i), 1000 + 8 * page + i);
            }
            Check.due("first word behind", x.memory(1, 8 * page + 8), 0);
            Check.due("deliver", x.deliver(0), 3);
        }
        Check.due("memory(1, -1)", x.memory(1, -1), 0);
        Check.due("memory(0, 63)", x.memory(0, 63), 1063);
    }

    private static void memoryOfAnOldTarget() {
        Check.sentence("memory: if it takes part in a move");
        MovingGuest x = filled(1);
        Guests.movePages(x);
        Check.due("memory(0, 63)", x.memory(0, 63), 1063);
        Check.due("abort", x.abort(), true);
        Check.due("memory(0, 63)", x.memory(0, 63), 0);
        Check.due("move", x.move(), 2);
        Check.due("words 0 at first", x.memory(0, 63), 0);
        Guests.pages(x, 8);
        Check.due("memory(0, 63)", x.memory(0, 63), 1063);
        Check.due("crash of the target", x.crash(0), true);
        Check.due("memory(0, 63)", x.memory(0, 63), 0);
        Check.due("back", x.back(0), true);
        Check.due("memory(0, 63)", x.memory(0, 63), 0);
    }

    private static void outputIndex() {
        Check.sentence("output: 0 when there is none");
        MovingGuest x = Guests.on0(Code.set(0, 21), Code.write(0), Code.set(0, -22), Code.write(0));
        Check.due("output(0, 0) before", x.output(0, 0), 0);
        Guests.runs(x, 0, 2);
        Check.due("output(0, 0)", x.output(0, 0), 21);
        Check.due("output(0, 1) before", x.output(0, 1), 0);
        Guests.runs(x, 0, 2);
        Check.due("output(0, 1)", x.output(0, 1), -22);
        for (int i : new int[] {-1, 2, 39, 40, 41, LEAST, GREATEST}) {
            Check.due("output(0, " + i + ")", x.output(0, i), 0);
        }
    }

    private static void outputOfNone() {
        Check.sentence("output: of the guest that a host holds; 0 when there is none");
        MovingGuest x = full();
        Check.due("output(0, 2)", x.output(0, 2), 13);
        for (int i : new int[] {-1, 0, 2, 3, 40}) {
            Check.due("output(1, " + i + ")", x.output(1, i), 0);
            for (int host : NO_HOSTS) {
                Check.due("output(" + host + ", " + i + ")", x.output(host, i), 0);
            }
        }
        Guests.makeReady(x);
        Check.due("a ready target", x.output(1, 0), 0);
        Check.due("deliver", x.deliver(0), 4);
        Check.due("the new host", x.output(1, 2), 13);
        Check.due("the new host", x.output(1, 3), 0);
        Check.due("the old host", x.output(0, 0), 0);
        Check.due("crash", x.crash(1), true);
        Check.due("crashed", x.output(1, 0), 0);
        Check.due("create, on a host that had an output", x.create(0), 3);
        Check.due("the new guest", x.output(0, 0), 0);
    }

    private static void readingChangesNothing() {
        Check.sentence("nothing beyond the answers");
        MovingGuest x = full();
        Check.due("move", x.move(), 1);
        Guests.sends(x, 2);
        Check.unchanged(x, () -> {
            for (int i = -1; i < 10; i++) {
                x.told(i);
                x.piece(i, i);
                x.guest(i, i);
                x.memory(i, i);
                x.output(i, i);
                x.block(i);
                x.isUp(i);
                x.holder();
            }
        });
    }
}
