/** Promises 1 to 5 and 7: the calls that are refused, and the last that are not. */
final class CallBoundsTest {
    private static final int BAD = MovingGuest.BAD;
    private static final int NO = MovingGuest.NO;
    private static final int FULL = MovingGuest.FULL;
    private static final int LEAST = Integer.MIN_VALUE;
    private static final int GREATEST = Integer.MAX_VALUE;
    private static final int[] NO_HOSTS = {-1, 2, 3, LEAST, GREATEST};

    public static void main(String[] args) {
        newObject();
        imageIndex();
        imageWithoutGuest();
        createWithoutHost();
        createWhereNotUp();
        createBesideAGuest();
        createWhileAMoveGoesOn();
        createRaisesTheNumber();
        createAllElse0OrEmpty();
        createWithTheImage();
        runWithoutHost();
        runCount();
        runUpToN();
        runWhereNoneRuns();
        runWhenStopped();
        inputWithoutHost();
        inputWhereNoneRuns();
        inputFull();
        inputWhenStopped();
        moveWhileOneGoesOn();
        moveWithoutGuest();
        moveWithoutTarget();
        moveNumbers();
        theLastOf512Calls();
        Check.end();
    }

    private static void newObject() {
        Check.sentence("both hosts up, an image of 0s, nothing else");
        MovingGuest x = new MovingGuest();
        Guests.told("new", x, NO, 0, 0, NO, 0, 0, 0, 0, 0);
        Check.due("isUp(0)", x.isUp(0), true);
        Check.due("isUp(1)", x.isUp(1), true);
        Check.due("the first number is 1", x.create(0), 1);
        Check.due("memory(0, 0)", x.memory(0, 0), 0);
        Check.due("memory(0, 63)", x.memory(0, 63), 0);
        Check.due("the first move is 1", x.move(), 1);
    }

    private static void imageIndex() {
        Check.sentence("false when i is not 0 .. 63");
        MovingGuest x = new MovingGuest();
        for (int i : new int[] {-1, 64, 65, LEAST, GREATEST}) {
            Check.due("image(" + i + ")", x.image(i, 9), false);
        }
        for (int i : new int[] {0, 1, 62, 63}) {
            Check.due("image(" + i + ")", x.image(i, 100 + i), true);
        }
        Check.due("again, with the least word", x.image(1, LEAST), true);
        Check.due("again, with the greatest word", x.image(62, GREATEST), true);
        Check.due("create", x.create(0), 1);
        for (int i = 0; i < 64; i++) {
            int due = i == 0 || i == 63 ? 100 + i : i == 1 ? LEAST : i == 62 ? GREATEST : 0;
            Check.due("memory(0, " + i + ")", x.memory(0, i), due);
        }
    }

    private static void imageWithoutGuest() {
        Check.sentence("word i of the image is w (of no guest that is there)");
        MovingGuest x = Guests.on0(1, 2);
        Check.unchanged(x, () -> {
            Check.due("image(0)", x.image(0, 3), true);
            Check.due("image(64)", x.image(64, 3), false);
        });
        Check.due("crash(0)", x.crash(0), true);
        Check.due("image of a crashed host", x.image(63, 4), true);
        Check.due("create(1)", x.create(1), 2);
        Check.due("memory(1, 0)", x.memory(1, 0), 3);
        Check.due("memory(1, 63)", x.memory(1, 63), 4);
    }

    private static void createWithoutHost() {
        Check.sentence("create: BAD when there is no such host");
        MovingGuest empty = new MovingGuest();
        Check.unchanged(empty, () -> createsNot(empty, BAD, NO_HOSTS));
        MovingGuest held = Guests.on0();
        Check.unchanged(held, () -> createsNot(held, BAD, NO_HOSTS));
        Check.due("create(1)", empty.create(1), 1);
    }

    private static void createsNot(MovingGuest x, int due, int... hosts) {
        for (int host : hosts) {
            Check.due("create(" + host + ")", x.create(host), due);
        }
    }

    private static void createWhereNotUp() {
        Check.sentence("create: NO when it is not up");
        for (int host = 0; host < 2; host++) {
            MovingGuest x = new MovingGuest();
            int down = host;
            Check.due("crash", x.crash(down), true);
            Check.unchanged(x, () -> createsNot(x, NO, down));
            Check.due("create on the other", x.create(1 - down), 1);
            Check.due("crash", x.crash(1 - down), true);
            Check.unchanged(x, () -> createsNot(x, NO, 0, 1));
            Check.due("back", x.back(down), true);
            Check.due("create on a host that is back", x.create(down), 2);
        }
    }

    private static void createBesideAGuest() {
        Check.sentence("create: NO when a host holds a guest");
        for (int host = 0; host < 2; host++) {
            MovingGuest x = new MovingGuest();
            Check.due("create", x.create(host), 1);
            Check.unchanged(x, () -> createsNot(x, NO, 0, 1));
            Guests.wholeMove(x);
            createsNot(x, NO, 0, 1);
            Check.due("crash of the host without it", x.crash(host), true);
            Check.due("back", x.back(host), true);
            Check.unchanged(x, () -> createsNot(x, NO, 0, 1));
            Check.due("crash of the holder", x.crash(1 - host), true);
            Check.due("create", x.create(host), 3);
        }
    }

    private static void createWhileAMoveGoesOn() {
        Check.sentence("create: NO when a move goes on");
        MovingGuest x = Guests.on0();
        Guests.makeReady(x);
        createsNot(x, NO, 0, 1);
        Check.due("crash of the source", x.crash(0), true);
        Check.due("no host holds a guest", x.holder(), NO);
        Check.unchanged(x, () -> createsNot(x, NO, 0, 1));
        Check.due("back", x.back(0), true);
        Check.unchanged(x, () -> createsNot(x, NO, 0, 1));
        Check.due("abort", x.abort(), true);
        Check.due("create when the move has ended", x.create(1), 2);
    }

    private static void createRaisesTheNumber() {
        Check.sentence("which is the owner then; the witness's number is one more: that");
        MovingGuest x = new MovingGuest();
        for (int n = 1; n <= 6; n++) {
            int host = n / 2 % 2;
            Check.due("create", x.create(host), n);
            Guests.told("created", x, host, n);
            Check.due("holder", x.holder(), host);
            Check.due("crash", x.crash(host), true);
            Guests.told("crashed", x, host, n);
            Check.due("back", x.back(host), true);
        }
    }

    /** On the host on which a guest had something in each part, and another one its timer on. */
    private static void createAllElse0OrEmpty() {
        Check.sentence("create: all else 0 or empty");
        MovingGuest x = Guests.on0(Code.set(0, 1), Code.set(1, 2), Code.set(2, 3), Code.set(3, 2), Code.timer(3),
                Code.write(0), Code.put(1, 4));
        Check.due("input", x.input(0, 8), 1);
        Guests.runs(x, 0, 7);
        Guests.guest("the first guest", x, 0, 1, 2, 3, 7, 56, 0, 7, 1, 1, 1);
        Check.due("crash", x.crash(0), true);
        Check.due("back", x.back(0), true);
        Guests.imageAt(x, 0, Code.read(0), Code.put(0, 1), Code.write(0));
        Check.due("create", x.create(0), 2);
        Guests.guest("the second guest", x, 0, 0, 0, 0, 0, 0, 0, 0, 0, 0, 0);
        Check.due("output", x.output(0, 0), 0);
        Check.due("no order", x.disk(0), NO);
        Guests.runs(x, 0, 2);
        Guests.guest("no input, no timer, no request", x, 0, -1, 0, 0, 0, 2, 0, 2, 0, 0, 1);
        Check.due("crash, when the timer is on", x.crash(0), true);
        Check.due("back", x.back(0), true);
        Guests.imageAt(x, 0, Code.set(3, 9), Code.timer(3));
        Check.due("create", x.create(0), 3);
        Guests.runs(x, 0, 2);
        Check.due("timer", x.guest(0, 5), 9);
        Check.due("crash", x.crash(0), true);
        Check.due("back", x.back(0), true);
        Check.due("create", x.create(0), 4);
        Guests.guest("the last guest", x, 0, 0, 0, 0, 0, 0, 0, 0, 0, 0, 0);
    }

    private static void createWithTheImage() {
        Check.sentence("create: a guest with the image as its memory (whatever an earlier one stored)");
        MovingGuest x = Guests.on0(Code.store(0, 0, 0), Code.set(1, 5), Code.store(1, 0, 63));
        Guests.runs(x, 0, 3);
        Check.due("word 0", x.memory(0, 0), 0);
        Check.due("word 63", x.memory(0, 63), 5);
        Check.due("crash", x.crash(0), true);
        Check.due("back", x.back(0), true);
        Check.due("create", x.create(0), 2);
        Check.due("word 0", x.memory(0, 0), Code.store(0, 0, 0));
        Check.due("word 63", x.memory(0, 63), 0);
    }

    private static void runWithoutHost() {
        Check.sentence("run: BAD when there is no such host");
        MovingGuest x = Guests.on0(Code.jump(0));
        Check.unchanged(x, () -> {
            for (int host : NO_HOSTS) {
                Check.due("run(" + host + ", 1)", x.run(host, 1), BAD);
                Check.due("run(" + host + ", 0)", x.run(host, 0), BAD);
            }
        });
    }

    private static void runCount() {
        Check.sentence("run: BAD when n is not 1 .. 100");
        MovingGuest x = Guests.on0(Code.jump(0));
        Check.unchanged(x, () -> {
            for (int n : new int[] {0, -1, 101, 102, LEAST, GREATEST}) {
                Check.due("run(0, " + n + ")", x.run(0, n), BAD);
                Check.due("run(1, " + n + ") where none runs", x.run(1, n), BAD);
            }
        });
        Guests.runs(x, 0, 1);
        Guests.runs(x, 0, 2);
        Guests.runs(x, 0, 99);
        Guests.runs(x, 0, 100);
        Check.due("retired", x.guest(0, 6), 202);
        Check.due("run(1, 1) where none runs", x.run(1, 1), NO);
        Check.due("run(1, 100) where none runs", x.run(1, 100), NO);
    }

    private static void runUpToN() {
        Check.sentence("up to n instructions, until it halts or waits: how many it retired");
        int[] words = new int[63];
        for (int i = 0; i < 63; i++) {
            words[i] = Code.set(0, i);
        }
        MovingGuest x = Guests.on0(words);
        Guests.runs(x, 0, 62);
        Check.due("one is left", x.run(0, 2), 1);
        Check.due("none is left", x.run(0, 1), 0);
        x = Guests.on0(words);
        Guests.runs(x, 0, 63);
        Check.due("none is left", x.run(0, 100), 0);
        x = Guests.on0(words);
        Check.due("one more than there are", x.run(0, 64), 63);
        Check.due("counter", x.guest(0, 4), 63);
        x = Guests.on0(Code.put(0, 0), Code.put(0, 1));
        Check.due("until it waits", x.run(0, 100), 1);
        x = Guests.on0();
        Check.due("nothing to do", x.run(0, 1), 0);
    }

    private static void runsNot(MovingGuest x, int... hosts) {
        for (int host : hosts) {
            Check.due("run(" + host + ", 1)", x.run(host, 1), NO);
            Check.due("input(" + host + ", 1)", x.input(host, 1), NO);
        }
    }

    private static void runWhereNoneRuns() {
        Check.sentence("run: NO when the host runs none");
        MovingGuest empty = new MovingGuest();
        Check.unchanged(empty, () -> runsNot(empty, 0, 1));
        MovingGuest x = new MovingGuest();
        Check.due("create", x.create(1), 1);
        Check.unchanged(x, () -> runsNot(x, 0));
        Guests.makeReady(x);
        Check.unchanged(x, () -> runsNot(x, 0, 1));
        Check.due("deliver TAKEN", x.deliver(0), 4);
        Check.unchanged(x, () -> runsNot(x, 1));
        Check.due("run at the new host", x.run(0, 1), 0);
        Check.due("crash", x.crash(0), true);
        runsNot(x, 0, 1);
        Check.due("back", x.back(0), true);
        runsNot(x, 0, 1);
    }

    private static void runWhenStopped() {
        Check.sentence("a host RUNS one if the guest is not stopped");
        MovingGuest x = Guests.on0(Code.jump(0));
        Check.due("move", x.move(), 1);
        Guests.runs(x, 0, 1);
        Guests.pages(x, 8);
        Guests.runs(x, 0, 1);
        Check.due("step", x.step(), 2);
        Check.unchanged(x, () -> runsNot(x, 0, 1));
        Check.due("abort", x.abort(), true);
        Guests.runs(x, 0, 1);
    }

    private static void inputWithoutHost() {
        Check.sentence("input: BAD when there is no such host");
        MovingGuest x = Guests.on0();
        for (int i = 1; i <= 8; i++) {
            for (int host : NO_HOSTS) {
                Check.due("input(" + host + ")", x.input(host, i), BAD);
            }
            Check.due("input(0)", x.input(0, i), i);
        }
        for (int host : NO_HOSTS) {
            Check.due("input(" + host + ") beside a full one", x.input(host, 9), BAD);
        }
    }

    private static void inputWhereNoneRuns() {
        Check.sentence("input: NO when the host runs none");
        MovingGuest x = Guests.on0();
        Check.due("input(1)", x.input(1, 5), NO);
        Check.due("input(0)", x.input(0, 5), 1);
        Check.due("crash", x.crash(0), true);
        Check.due("input(0) not up", x.input(0, 5), NO);
        Check.due("create", x.create(1), 2);
        Check.due("input(1), empty again", x.input(1, 5), 1);
    }

    private static void inputFull() {
        Check.sentence("input: FULL");
        MovingGuest x = Guests.on0(Code.read(0));
        for (int i = 1; i <= 8; i++) {
            Check.due("input", x.input(0, i), i);
        }
        Check.unchanged(x, () -> {
            Check.due("a ninth", x.input(0, 9), FULL);
            Check.due("a tenth", x.input(0, 10), FULL);
        });
        Guests.wholeMove(x);
        Check.due("full at the new host too", x.input(1, 9), FULL);
        Guests.runs(x, 1, 1);
        Check.due("the oldest", x.guest(1, 0), 1);
        Check.due("room for one", x.input(1, 9), 8);
        Check.due("and for no other", x.input(1, 10), FULL);
    }

    private static void inputWhenStopped() {
        Check.sentence("input: NO when the host runs none (a full one that is stopped too)");
        MovingGuest x = Guests.on0();
        for (int i = 1; i <= 8; i++) {
            Check.due("input", x.input(0, i), i);
        }
        Guests.movePages(x);
        Check.due("full", x.input(0, 9), FULL);
        Check.due("step", x.step(), 2);
        Check.unchanged(x, () -> Check.due("stopped", x.input(0, 9), NO));
        Check.due("abort", x.abort(), true);
        Check.due("full", x.input(0, 9), FULL);
    }

    private static void movesNot(MovingGuest x) {
        Check.unchanged(x, () -> Check.due("move", x.move(), NO));
    }

    private static void moveWhileOneGoesOn() {
        Check.sentence("move: NO when one goes on");
        MovingGuest x = Guests.on0();
        Check.due("move", x.move(), 1);
        movesNot(x);
        Guests.pages(x, 8);
        movesNot(x);
        x = Guests.on0();
        Guests.makeReady(x);
        movesNot(x);
        Check.due("crash of the target", x.crash(1), true);
        Check.due("back", x.back(1), true);
        movesNot(x);
    }

    private static void moveWithoutGuest() {
        Check.sentence("move: NO when the owner runs no guest");
        movesNot(new MovingGuest());
        MovingGuest x = new MovingGuest();
        Check.due("create", x.create(1), 1);
        Check.due("crash of the owner", x.crash(1), true);
        movesNot(x);
        Check.due("back", x.back(1), true);
        movesNot(x);
        Check.due("create", x.create(1), 2);
        Check.due("move", x.move(), 1);
    }

    private static void moveWithoutTarget() {
        Check.sentence("move: NO when the other host is not up");
        for (int host = 0; host < 2; host++) {
            MovingGuest x = new MovingGuest();
            Check.due("crash", x.crash(1 - host), true);
            Check.due("create", x.create(host), 1);
            movesNot(x);
            Check.due("back", x.back(1 - host), true);
            Check.due("move", x.move(), 1);
            Check.due("its source", x.told(3), host);
        }
    }

    private static void moveNumbers() {
        Check.sentence("a number, one more than the latest one's (1 for the first)");
        MovingGuest x = Guests.on0();
        Check.due("after none", x.move(), 1);
        Check.due("abort", x.abort(), true);
        Check.due("after an abort", x.move(), 2);
        Check.due("a refused one", x.move(), NO);
        Check.due("crash", x.crash(0), true);
        Check.due("create", x.create(1), 3);
        Check.due("a refused one", x.move(), NO);
        Check.due("back", x.back(0), true);
        Check.due("after a crash", x.move(), 3);
        Check.due("abort", x.abort(), true);
        Guests.wholeMove(x);
        Guests.wholeMove(x);
        Check.due("after hand-overs", x.move(), 6);
    }

    private static void theLastOf512Calls() {
        Check.sentence("at most 512 calls after it has been made");
        MovingGuest x = Guests.on0(Code.jump(0));
        for (int i = 0; i < 509; i++) {
            Guests.runs(x, 0, 100);
        }
        Check.due("retired", x.guest(0, 6), 50900);
        x = new MovingGuest();
        Check.due("create", x.create(1), 1);
        for (int i = 1; i <= 255; i++) {
            Check.due("move", x.move(), i);
            Check.due("abort", x.abort(), true);
        }
        Check.due("the witness's number", x.told(1), 256);
        x = Guests.on0();
        Check.due("move", x.move(), 1);
        for (int i = 0; i < 509; i++) {
            Check.due("step in vain", x.step(), i % 9 == 8 ? 3 : 1);
        }
        Check.due("steps", x.told(8), 509);
    }
}
