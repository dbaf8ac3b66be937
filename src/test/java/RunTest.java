/** Promise 4: run, with every instruction. */
final class RunTest {
    private static final int BAD = MovingGuest.BAD;
    private static final int NO = MovingGuest.NO;

    public static void main(String[] args) {
        answers();
        halts();
        arithmetic();
        wrapping();
        loadAndStore();
        jumps();
        counterWraps();
        outputFills();
        inputIsRead();
        requests();
        diskIsRead();
        timerRings();
        timerEdges();
        timerWaits();
        Check.end();
    }

    private static void answers() {
        MovingGuest x = Guests.on0(Code.jump(0));
        Check.due("run(-1, 1)", x.run(-1, 1), BAD);
        Check.due("run(2, 1)", x.run(2, 1), BAD);
        Check.due("run(0, 0)", x.run(0, 0), BAD);
        Check.due("run(0, -1)", x.run(0, -1), BAD);
        Check.due("run(0, 101)", x.run(0, 101), BAD);
        Check.due("run(1, 101)", x.run(1, 101), BAD);
        Check.due("run(1, 1)", x.run(1, 1), NO);
        Check.due("run(0, 1)", x.run(0, 1), 1);
        Check.due("run(0, 100)", x.run(0, 100), 100);
        Check.due("retired", x.guest(0, 6), 101);
        Check.due("crash", x.crash(0), true);
        Check.due("run not up", x.run(0, 1), NO);
        Check.due("back", x.back(0), true);
        Check.due("run without a guest", x.run(0, 1), NO);
        Check.due("run(0, 0) without a guest", x.run(0, 0), BAD);
    }

    private static void halts() {
        int[] halting = {0, 14, 15, 16, 0x7fff0000, Code.word(14, 1, 2, 3, 4), Code.word(15, 3, 3, 63, -1)};
        for (int word : halting) {
            MovingGuest x = Guests.on0(Code.set(0, 4), word);
            Check.due("run to " + word, x.run(0, 10), 1);
            Check.due("run at " + word, x.run(0, 10), 0);
            Check.due("counter", x.guest(0, 4), 1);
            Check.due("retired", x.guest(0, 6), 1);
            Check.due("register", x.guest(0, 0), 4);
        }
    }

    private static void arithmetic() {
        MovingGuest x = Guests.on0(Code.set(0, 32767), Code.set(1, -32768), Code.set(2, -1), Code.set(3, 6),
                Code.add(0, 3), Code.subtract(3, 0), Code.multiply(1, 2), Code.add(2, 2));
        Check.due("run", x.run(0, 4), 4);
        registers(x, 32767, -32768, -1, 6);
        Check.due("run", x.run(0, 1), 1);
        registers(x, 32773, -32768, -1, 6);
        Check.due("run", x.run(0, 1), 1);
        registers(x, 32773, -32768, -1, -32767);
        Check.due("run", x.run(0, 1), 1);
        registers(x, 32773, 32768, -1, -32767);
        Check.due("run", x.run(0, 9), 1);
        registers(x, 32773, 32768, -2, -32767);
        Check.due("counter", x.guest(0, 4), 8);
    }

    private static void wrapping() {
        MovingGuest x = new MovingGuest();
        Guests.image(x, Code.load(0, 3, 40), Code.load(1, 3, 41), Code.set(2, 1),
                Code.add(0, 2), Code.subtract(1, 2), Code.multiply(0, 0), Code.multiply(1, 1));
        x.image(40, Integer.MAX_VALUE);
        x.image(41, Integer.MIN_VALUE);
        Check.due("create", x.create(0), 1);
        Check.due("run", x.run(0, 5), 5);
        registers(x, Integer.MIN_VALUE, Integer.MAX_VALUE, 1, 0);
        Check.due("run", x.run(0, 5), 2);
        registers(x, 0, 1, 1, 0);
    }

    private static void loadAndStore() {
        MovingGuest x = Guests.on0(Code.set(1, 60), Code.set(0, 77), Code.store(0, 1, 50), Code.load(2, 1, 50),
                Code.set(1, -1), Code.store(0, 1, 0), Code.load(3, 1, 48), Code.store(1, 1, 63));
        Check.due("run", x.run(0, 4), 4);
        Check.due("word 110 & 63", x.memory(0, 46), 77);
        registers(x, 77, 60, 77, 0);
        Check.due("run", x.run(0, 2), 2);
        Check.due("word -1 & 63", x.memory(0, 63), 77);
        Check.due("run", x.run(0, 2), 2);
        Check.due("word 47", x.guest(0, 3), 0);
        Check.due("word 62", x.memory(0, 62), -1);
    }

    private static void jumps() {
        MovingGuest x = new MovingGuest();
        Guests.image(x, Code.jumpIfZero(0, 10));
        x.image(10, Code.set(0, 5));
        x.image(11, Code.jumpIfZero(0, 0));
        x.image(12, Code.jump(63));
        Check.due("create", x.create(0), 1);
        Check.due("run", x.run(0, 1), 1);
        Check.due("8 with 0 jumps", x.guest(0, 4), 10);
        Check.due("run", x.run(0, 2), 2);
        Check.due("8 with 5 goes on", x.guest(0, 4), 12);
        Check.due("run", x.run(0, 1), 1);
        Check.due("7 jumps", x.guest(0, 4), 63);
        Check.due("retired", x.guest(0, 6), 4);
    }

    private static void counterWraps() {
        MovingGuest x = new MovingGuest();
        x.image(0, Code.jump(63));
        x.image(63, Code.set(2, 3));
        Check.due("create", x.create(0), 1);
        Check.due("run", x.run(0, 2), 2);
        Check.due("0 comes behind 63", x.guest(0, 4), 0);
        Check.due("register 2", x.guest(0, 2), 3);
    }

    private static void outputFills() {
        MovingGuest x = Guests.on0(Code.set(1, 1), Code.write(0), Code.add(0, 1), Code.jump(1));
        Check.due("run", x.run(0, 100), 100);
        Check.due("words", x.guest(0, 8), 33);
        Check.due("run", x.run(0, 100), 100);
        Check.due("words", x.guest(0, 8), 40);
        Check.due("retired", x.guest(0, 6), 200);
        for (int i = 0; i < 40; i++) {
            Check.due("output", x.output(0, i), i);
        }
        Check.due("output(40)", x.output(0, 40), 0);
    }

    private static void inputIsRead() {
        MovingGuest x = Guests.on0(Code.read(0), Code.read(1), Code.read(2));
        x.input(0, 11);
        x.input(0, 22);
        Check.due("run", x.run(0, 1), 1);
        Check.due("oldest", x.guest(0, 0), 11);
        Check.due("left", x.guest(0, 7), 1);
        Check.due("run", x.run(0, 1), 1);
        Check.due("next", x.guest(0, 1), 22);
        Check.due("left", x.guest(0, 7), 0);
        Check.due("run", x.run(0, 1), 1);
        Check.due("none", x.guest(0, 2), -1);
        Check.due("left", x.guest(0, 7), 0);
    }

    private static void requests() {
        MovingGuest x = Guests.on0(Code.set(1, 42), Code.put(1, 13), Code.set(1, 43), Code.put(1, 6));
        Check.due("run to the second put", x.run(0, 10), 3);
        Check.due("request", x.guest(0, 9), 1);
        Check.due("waits", x.run(0, 10), 0);
        Check.due("counter", x.guest(0, 4), 3);
        Check.due("retired", x.guest(0, 6), 3);
        Check.due("disk", x.disk(0), 1);
        Check.due("block 13 & 7", x.block(5), 42);
        Check.due("run", x.run(0, 10), 1);
        Check.due("request", x.guest(0, 9), 1);
        Check.due("disk", x.disk(0), 1);
        Check.due("block 6", x.block(6), 43);
    }

    private static void diskIsRead() {
        MovingGuest x = Guests.on0(Code.set(1, 42), Code.put(1, 5), Code.get(2, 5), Code.get(3, 61), Code.get(1, 4));
        Check.due("run to the get", x.run(0, 10), 2);
        Check.due("waits", x.run(0, 10), 0);
        Check.due("counter", x.guest(0, 4), 2);
        Check.due("disk", x.disk(0), 1);
        Check.due("run", x.run(0, 10), 3);
        registers(x, 0, 0, 42, 42);
    }

    private static void timerRings() {
        MovingGuest x = Guests.on0(Code.set(0, 3), Code.timer(0), Code.set(1, 1), Code.jump(8));
        Check.due("run", x.run(0, 2), 2);
        Check.due("timer is one less already", x.guest(0, 5), 3);
        Check.due("run", x.run(0, 1), 1);
        Check.due("timer", x.guest(0, 5), 2);
        x = new MovingGuest();
        Guests.image(x, Code.set(0, 2), Code.timer(0), Code.set(1, 1), Code.jump(8));
        x.image(56, Code.write(3));
        Check.due("create", x.create(0), 1);
        Check.due("run", x.run(0, 4), 4);
        Check.due("timer is off", x.guest(0, 5), 0);
        Check.due("register 3 is where it was to go on", x.guest(0, 3), 8);
        Check.due("counter", x.guest(0, 4), 56);
        Check.due("run", x.run(0, 4), 1);
        Check.due("output", x.output(0, 0), 8);
        Check.due("no ring when off", x.guest(0, 4), 57);
    }

    private static void timerEdges() {
        MovingGuest x = Guests.on0(Code.timer(0));
        Check.due("run", x.run(0, 1), 1);
        Check.due("rings at once", x.guest(0, 4), 56);
        Check.due("register 3", x.guest(0, 3), 1);
        x = Guests.on0(Code.set(0, -1), Code.timer(0));
        Check.due("run", x.run(0, 2), 2);
        Check.due("timer from 255", x.guest(0, 5), 255);
        x = Guests.on0(Code.set(0, 256 + 7), Code.timer(0));
        Check.due("run", x.run(0, 2), 2);
        Check.due("timer from 263", x.guest(0, 5), 7);
        x = new MovingGuest();
        Guests.image(x, Code.set(0, 1), Code.timer(0), Code.jump(63));
        x.image(63, Code.timer(0));
        Check.due("create", x.create(0), 1);
        Check.due("run", x.run(0, 3), 3);
        Check.due("register 3 after a jump", x.guest(0, 3), 63);
        x = Guests.on0(Code.set(0, 9), Code.timer(0), Code.timer(0));
        Check.due("run", x.run(0, 3), 3);
        Check.due("set anew", x.guest(0, 5), 9);
    }

    private static void timerWaits() {
        MovingGuest x = Guests.on0(Code.set(0, 5), Code.timer(0), Code.put(0, 0), Code.put(0, 1));
        Check.due("run", x.run(0, 9), 3);
        Check.due("waits", x.run(0, 9), 0);
        Check.due("timer stands while it waits", x.guest(0, 5), 4);
        Check.due("disk", x.disk(0), 1);
        Check.due("run", x.run(0, 9), 1);
        Check.due("timer", x.guest(0, 5), 3);
        Check.due("halts", x.run(0, 9), 0);
        Check.due("timer stands while it halts", x.guest(0, 5), 3);
    }

    private static void registers(MovingGuest x, int... due) {
        for (int i = 0; i < due.length; i++) {
            Check.due("register " + i, x.guest(0, i), due[i]);
        }
    }
}
