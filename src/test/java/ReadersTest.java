/** Promises 16, 17, 20, 21 and 22: holder, told, guest, memory and output, with wrong inputs above all. */
final class ReadersTest {
    private static final int BAD = MovingGuest.BAD;
    private static final int NO = MovingGuest.NO;
    private static final int[] WRONG_HOSTS = {-1, 2, Integer.MIN_VALUE, Integer.MAX_VALUE};

    public static void main(String[] args) {
        holder();
        told();
        guest();
        memory();
        memoryOfATarget();
        output();
        Check.end();
    }

    private static void holder() {
        MovingGuest x = new MovingGuest();
        Check.due("none", x.holder(), NO);
        Check.due("create", x.create(1), 1);
        Check.due("host 1", x.holder(), 1);
        Guests.makeReady(x);
        Check.due("during the move", x.holder(), 1);
        Check.due("deliver", x.deliver(0), 4);
        Check.due("host 0", x.holder(), 0);
        Check.due("crash", x.crash(0), true);
        Check.due("none", x.holder(), NO);
    }

    private static void told() {
        MovingGuest x = new MovingGuest();
        Check.due("told(-1)", x.told(-1), BAD);
        Check.due("told(9)", x.told(9), BAD);
        Check.due("told(least)", x.told(Integer.MIN_VALUE), BAD);
        Check.due("told(greatest)", x.told(Integer.MAX_VALUE), BAD);
        Check.due("create", x.create(1), 1);
        Guests.told("created", x, 1, 1, 0, NO, 0, 0, 0, 0, 0);
        Check.due("move", x.move(), 1);
        Guests.pages(x, 4);
        Check.due("step", x.step(), 1);
        Guests.told("moving", x, 1, 1, 1, 1, 0, 4, 1, 0, 5);
    }

    private static void guest() {
        MovingGuest x = Guests.on0(Code.set(0, 11), Code.set(1, 12), Code.set(2, 13), Code.set(3, 14),
                Code.timer(3), Code.write(0), Code.write(1), Code.write(2), Code.put(0, 0));
        x.input(0, 1);
        x.input(0, 2);
        Check.due("run", x.run(0, 50), 9);
        int[] due = {11, 12, 13, 14, 9, 10, 9, 2, 3, 1};
        for (int what = 0; what < 10; what++) {
            Check.due("guest(0, " + what + ")", x.guest(0, what), due[what]);
            Check.due("guest(1, " + what + ")", x.guest(1, what), 0);
            for (int host : WRONG_HOSTS) {
                Check.due("guest(" + host + ", " + what + ")", x.guest(host, what), 0);
            }
        }
        Check.due("guest(0, -1)", x.guest(0, -1), 0);
        Check.due("guest(0, 10)", x.guest(0, 10), 0);
        Check.due("guest(0, least)", x.guest(0, Integer.MIN_VALUE), 0);
        Check.due("guest(0, greatest)", x.guest(0, Integer.MAX_VALUE), 0);
    }

    private static void memory() {
        MovingGuest x = new MovingGuest();
        for (int i = 0; i < 64; i++) {
            x.image(i, 1000 + i);
        }
        Check.due("create", x.create(1), 1);
        for (int i = 0; i < 64; i++) {
            Check.due("memory(1, " + i + ")", x.memory(1, i), 1000 + i);
            Check.due("memory(0, " + i + ")", x.memory(0, i), 0);
        }
        for (int host : WRONG_HOSTS) {
            Check.due("memory(" + host + ", 0)", x.memory(host, 0), 0);
        }
        Check.due("memory(1, -1)", x.memory(1, -1), 0);
        Check.due("memory(1, 64)", x.memory(1, 64), 0);
        Check.due("memory(1, least)", x.memory(1, Integer.MIN_VALUE), 0);
        Check.due("memory(1, greatest)", x.memory(1, Integer.MAX_VALUE), 0);
    }

    private static void memoryOfATarget() {
        MovingGuest x = new MovingGuest();
        for (int i = 0; i < 64; i++) {
            x.image(i, 1000 + i);
        }
        Check.due("create", x.create(0), 1);
        Check.due("move", x.move(), 1);
        for (int page = 0; page < 8; page++) {
            Guests.pages(x, 1);
            // Few words of each page, as an object is good for 512 calls.
            for (int i = 0; i < 64; i += i % 8 == 0 ? 7 : 1) {
                Check.due("memory(1, " + i + ")", x.memory(1, i), i / 8 <= page ? 1000 + i : 0);
            }
        }
        Check.due("memory(1, -1)", x.memory(1, -1), 0);
        Check.due("memory(1, 64)", x.memory(1, 64), 0);
        Check.due("memory(0, 63)", x.memory(0, 63), 1063);
    }

    private static void output() {
        MovingGuest x = Guests.on0(Code.set(0, 21), Code.write(0), Code.set(0, -22), Code.write(0));
        Check.due("run", x.run(0, 9), 4);
        Check.due("output(0, 0)", x.output(0, 0), 21);
        Check.due("output(0, 1)", x.output(0, 1), -22);
        Check.due("output(0, 2)", x.output(0, 2), 0);
        Check.due("output(0, -1)", x.output(0, -1), 0);
        Check.due("output(0, 40)", x.output(0, 40), 0);
        Check.due("output(0, greatest)", x.output(0, Integer.MAX_VALUE), 0);
        Check.due("output(1, 0)", x.output(1, 0), 0);
        for (int host : WRONG_HOSTS) {
            Check.due("output(" + host + ", 0)", x.output(host, 0), 0);
        }
    }
}
