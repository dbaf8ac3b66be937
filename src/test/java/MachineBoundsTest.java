/** Terms, "THE MACHINE": the bounds of its parts and of an instruction's fields. */
final class MachineBoundsTest {
    private static final int FULL = MovingGuest.FULL;
    private static final int LEAST = Integer.MIN_VALUE;
    private static final int GREATEST = Integer.MAX_VALUE;

    public static void main(String[] args) {
        memoryOf64Words();
        wordOnItsPage();
        addressesAreMasked();
        registers0To3();
        counterBehind63();
        counterIsSetByAJump();
        inputOf8Words();
        outputOf40Words();
        requestBlocks();
        opField();
        registerFields();
        kField();
        cField();
        Check.end();
    }

    private static void memoryOf64Words() {
        Check.sentence("MEMORY, 64 words");
        MovingGuest x = new MovingGuest();
        Check.due("image(0)", x.image(0, 5), true);
        Check.due("image(63)", x.image(63, 6), true);
        Check.due("image(-1)", x.image(-1, 7), false);
        Check.due("image(64)", x.image(64, 8), false);
        Check.due("create", x.create(0), 1);
        Check.due("memory(0, 0)", x.memory(0, 0), 5);
        Check.due("memory(0, 63)", x.memory(0, 63), 6);
        Check.due("memory(0, -1)", x.memory(0, -1), 0);
        Check.due("memory(0, 64)", x.memory(0, 64), 0);
    }

    private static void wordOnItsPage() {
        Check.sentence("word i is on page i / 8");
        int[] words = {0, 7, 8, 15, 16, 31, 32, 47, 48, 55, 56, 63};
        for (int i : words) {
            MovingGuest x = Guests.on0(Code.store(0, 1, i));
            Guests.movePages(x);
            Guests.runs(x, 0, 1);
            Check.due("pages not known after word " + i + " changed", x.told(5), 1);
            Check.due("step", x.step(), 1);
            Check.due("the page of word " + i, x.piece(0, 2), i / 8);
        }
    }

    private static void addressesAreMasked() {
        Check.sentence("M(x) is the memory's word x & 63");
        int[][] cases = {{0, 62, 62}, {0, 63, 63}, {1, 63, 0}, {62, 0, 62}, {63, 0, 63}, {64, 0, 0}, {63, 1, 0},
            {127, 0, 63}, {128, 0, 0}, {-1, 0, 63}, {-1, 1, 0}, {-64, 0, 0}, {-65, 0, 63}, {GREATEST, 0, 63},
            {GREATEST, 1, 0}, {GREATEST, 63, 62}, {LEAST, 0, 0}, {LEAST, 63, 63}};
        for (int[] c : cases) {
            loads(c[0], c[1], c[2]);
            stores(c[0], c[1], c[2]);
        }
    }

    private static void loads(int base, int k, int due) {
        MovingGuest x = new MovingGuest();
        Guests.image(x, Code.load(1, 0, 40), Code.load(3, 1, k));
        Guests.imageAt(x, 40, base);
        Guests.imageAt(x, 61, 1061, 1062, 1063);
        Check.due("create", x.create(0), 1);
        Guests.runs(x, 0, 2);
        Check.due("load from " + base + " + " + k, x.guest(0, 3), x.memory(0, due));
    }

    private static void stores(int base, int k, int due) {
        MovingGuest x = Guests.on0With(base, 0, Code.load(1, 0, 40), Code.set(2, 777), Code.store(2, 1, k));
        Guests.runs(x, 0, 3);
        for (int i : new int[] {0, 1, 61, 62, 63}) {
            Check.due("word " + i + " after a store to " + base + " + " + k, x.memory(0, i) == 777, i == due);
        }
    }

    private static void registers0To3() {
        Check.sentence("REGISTERS 0 .. 3");
        for (int a = 0; a < 4; a++) {
            MovingGuest x = Guests.on0(Code.set(a, 9));
            Guests.runs(x, 0, 1);
            for (int i = 0; i < 4; i++) {
                Check.due("register " + i, x.guest(0, i), i == a ? 9 : 0);
            }
            Check.due("behind register 3 comes the counter", x.guest(0, 4), 1);
            Check.due("in front of register 0 is nothing", x.guest(0, -1), 0);
        }
    }

    private static void counterBehind63() {
        Check.sentence("the counter is the next one (63: 0)");
        MovingGuest x = new MovingGuest();
        Guests.image(x, Code.jump(62));
        Guests.imageAt(x, 62, Code.set(0, 1), Code.set(1, 1));
        Check.due("create", x.create(0), 1);
        Guests.runs(x, 0, 1);
        Check.due("counter", x.guest(0, 4), 62);
        Guests.runs(x, 0, 1);
        Check.due("63 behind 62", x.guest(0, 4), 63);
        Guests.runs(x, 0, 1);
        Check.due("0 behind 63", x.guest(0, 4), 0);
        Check.due("the word at 63 was done", x.guest(0, 1), 1);
        Guests.runs(x, 0, 100);
        Check.due("retired", x.guest(0, 6), 103);
        Check.due("counter in the 35th round", x.guest(0, 4), 62);
    }

    private static void counterIsSetByAJump() {
        Check.sentence("but where it was set by 7 or 8");
        MovingGuest x = jumpAt63(Code.jump(63));
        Check.due("7 from 63 to 63", x.guest(0, 4), 63);
        x = jumpAt63(Code.jump(0));
        Check.due("7 from 63 to 0", x.guest(0, 4), 0);
        x = jumpAt63(Code.jumpIfZero(0, 63));
        Check.due("8 from 63 to 63", x.guest(0, 4), 63);
        x = jumpAt63(Code.jumpIfZero(1, 63));
        Check.due("8 at 63 that does not jump", x.guest(0, 4), 0);
    }

    /** Done is the word at 63, with register 0 as 0 and register 1 as 1. */
    private static MovingGuest jumpAt63(int word) {
        MovingGuest x = new MovingGuest();
        Guests.image(x, Code.set(1, 1), Code.jump(63));
        Guests.imageAt(x, 63, word);
        Check.due("create", x.create(0), 1);
        Guests.runs(x, 0, 3);
        return x;
    }

    private static void inputOf8Words() {
        Check.sentence("INPUT (at most 8 words, the oldest first)");
        MovingGuest x = Guests.on0(Code.read(0), Code.read(1), Code.read(2));
        for (int i = 1; i <= 8; i++) {
            Check.due("input", x.input(0, 10 * i), i);
        }
        Check.due("a ninth", x.input(0, 90), FULL);
        Check.due("words", x.guest(0, 7), 8);
        Guests.runs(x, 0, 1);
        Check.due("the oldest", x.guest(0, 0), 10);
        Check.due("words", x.guest(0, 7), 7);
        Check.due("an eighth again", x.input(0, 100), 8);
        Check.due("a ninth again", x.input(0, 110), FULL);
        Guests.runs(x, 0, 2);
        Check.due("the next", x.guest(0, 1), 20);
        Check.due("the one behind it", x.guest(0, 2), 30);
    }

    private static void outputOf40Words() {
        Check.sentence("if it has 40 words already, it is dropped");
        MovingGuest x = Guests.on0(Code.set(1, 1), Code.add(0, 1), Code.write(0), Code.jump(1));
        Guests.runs(x, 0, 100);
        Guests.runs(x, 0, 15);
        Check.due("words", x.guest(0, 8), 38);
        Guests.runs(x, 0, 3);
        Check.due("words", x.guest(0, 8), 39);
        Check.due("output(0, 39)", x.output(0, 39), 0);
        Guests.runs(x, 0, 3);
        Check.due("words", x.guest(0, 8), 40);
        Check.due("output(0, 39)", x.output(0, 39), 40);
        Guests.runs(x, 0, 3);
        Guests.guest("a word too many is retired all the same", x, 0, 41, 1, 0, 0, 1, 0, 124, 0, 40);
        Check.due("output(0, 0)", x.output(0, 0), 1);
        Check.due("output(0, 39)", x.output(0, 39), 40);
        Check.due("output(0, 40)", x.output(0, 40), 0);
    }

    private static void requestBlocks() {
        Check.sentence("a block 0 .. 7; block k & 7");
        int[] ks = {0, 1, 6, 7, 8, 15, 16, 56, 62, 63};
        for (int k : ks) {
            MovingGuest x = Guests.on0(Code.set(1, 77), Code.put(1, k), Code.get(2, k), Code.get(3, k & 7));
            Guests.runs(x, 0, 2);
            Check.due("disk", x.disk(0), 1);
            for (int i = 0; i < 8; i++) {
                Check.due("block " + i + " of k " + k, x.block(i), i == (k & 7) ? 77 : 0);
            }
            Guests.runs(x, 0, 2);
            Check.due("12 with k " + k, x.guest(0, 2), 77);
            Check.due("12 with k & 7", x.guest(0, 3), 77);
        }
    }

    private static void opField() {
        Check.sentence("op is v & 15");
        int[] halting = {0, 14, 15, 16, 32, 0x100, 0xfff0, 0x10000, 0x7fffffff, LEAST, -1, -2, -16};
        for (int v : halting) {
            MovingGuest x = Guests.on0(v);
            Check.due("run of " + v, x.run(0, 1), 0);
        }
        int[] others = {1, 13, 17, 29, 0xfff1, -3, -15};
        for (int v : others) {
            MovingGuest x = Guests.on0(v);
            Check.due("run of " + v, x.run(0, 1), 1);
        }
    }

    private static void registerFields() {
        Check.sentence("a is v >> 4 & 3, b is v >> 6 & 3");
        for (int a = 0; a < 4; a++) {
            for (int b = 0; b < 4; b++) {
                // All other bits are 1, so that a field which is too wide shows.
                MovingGuest x = Guests.on0(Code.set(0, 1), Code.set(1, 10), Code.set(2, 100), Code.set(3, 1000),
                        Code.word(2, a, b, 255, -1));
                Guests.runs(x, 0, 5);
                int[] due = {1, 10, 100, 1000};
                due[a] += due[b];
                Guests.guest("add " + a + ", " + b, x, 0, due);
            }
        }
    }

    private static void kField() {
        Check.sentence("k is v >> 8 & 63");
        int[] ks = {0, 1, 31, 32, 62, 63};
        for (int k : ks) {
            // Bits 14 and 15 lie behind k, bits 4 to 7 in front of it.
            int[] words = {7 | k << 8, 7 | k << 8 | 0xc000, 7 | k << 8 | 0xf0, 7 | k << 8 | -1 << 16};
            for (int v : words) {
                MovingGuest x = Guests.on0(v);
                Guests.runs(x, 0, 1);
                Check.due("the counter by " + v, x.guest(0, 4), k);
            }
        }
    }

    private static void cField() {
        Check.sentence("c is v >> 16 (with its sign)");
        int[] cs = {0, 1, 32767, -1, -32768};
        for (int c : cs) {
            MovingGuest x = Guests.on0(Code.set(0, c), Code.set(0, c) | 0xffc0);
            Guests.runs(x, 0, 1);
            Check.due("c " + c, x.guest(0, 0), c);
            Guests.runs(x, 0, 1);
            Check.due("c " + c + " above bits of 1", x.guest(0, 0), c);
        }
    }
}
