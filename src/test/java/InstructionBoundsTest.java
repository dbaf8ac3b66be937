/** Terms, "AN INSTRUCTION": where one halts, waits, wraps around or finds nothing, and the timer. */
final class InstructionBoundsTest {
    private static final int NO = MovingGuest.NO;
    private static final int LEAST = Integer.MIN_VALUE;
    private static final int GREATEST = Integer.MAX_VALUE;

    public static void main(String[] args) {
        haltsLeaveAll();
        putWaits();
        getWaits();
        othersDoNotWait();
        putAndGetWithoutRequest();
        additionWraps();
        subtractionWraps();
        multiplicationWraps();
        registerWithItself();
        jumpOnlyIfZero();
        inputThatHasNone();
        getOfAnEmptyBlock();
        timerThatIsOff();
        timerOfOne();
        timerOfTwo();
        timerMask();
        timerOf256();
        timerSetAnew();
        timerTakesRegister3();
        timerBehindTheLastWord();
        timerStandsStill();
        timerWithinARun();
        codeThatChangesItself();
        Check.end();
    }

    /** A guest with something in each part, whose timer is on; the counter is at 8. */
    private static MovingGuest beforeWord8(int word8) {
        MovingGuest x = Guests.on0(Code.set(0, 1), Code.set(1, 2), Code.set(2, 3), Code.set(3, 50), Code.timer(3),
                Code.write(1), Code.put(2, 4), Code.store(1, 3, 5), word8);
        Check.due("input", x.input(0, 7), 1);
        Guests.runs(x, 0, 8);
        Guests.guest("before", x, 0, 1, 2, 3, 50, 8, 47, 8, 1, 1, 1);
        return x;
    }

    private static void leavesAll(int word8) {
        MovingGuest x = beforeWord8(word8);
        Check.unchanged(x, () -> {
            Check.due("run(0, 1) at " + word8, x.run(0, 1), 0);
            Check.due("run(0, 100) at " + word8, x.run(0, 100), 0);
        });
    }

    private static void haltsLeaveAll() {
        Check.sentence("0: it HALTS; 14, 15: it halts; then all is as before");
        leavesAll(0);
        leavesAll(14);
        leavesAll(15);
        leavesAll(Code.word(0, 1, 2, 63, -1));
        leavesAll(Code.word(14, 3, 3, 63, -1));
        leavesAll(-1);
    }

    private static void putWaits() {
        Check.sentence("11: if it has a request, it WAITS");
        leavesAll(Code.put(0, 6));
        MovingGuest x = beforeWord8(Code.put(0, 6));
        Check.due("run", x.run(0, 1), 0);
        Check.due("the first order stands", x.disk(0), 1);
        Check.due("block 4", x.block(4), 3);
        Check.due("block 6", x.block(6), 0);
        Check.due("waits no more", x.run(0, 100), 1);
        Check.due("the second order", x.disk(0), 1);
        Check.due("block 6", x.block(6), 1);
    }

    private static void getWaits() {
        Check.sentence("12: if it has a request, it waits");
        leavesAll(Code.get(0, 4));
        leavesAll(Code.get(0, 5));
        MovingGuest x = beforeWord8(Code.get(0, 4));
        Check.due("run", x.run(0, 1), 0);
        Check.due("disk", x.disk(0), 1);
        Check.due("waits no more", x.run(0, 100), 1);
        Check.due("register 0", x.guest(0, 0), 3);
    }

    private static void othersDoNotWait() {
        Check.sentence("unless it halts or waits, the instruction is retired");
        does(Code.word(1, 2, 3, 20, 5), 1, 2, 5, 50, 9, 46, 9, 1, 1, 1);
        does(Code.word(2, 2, 3, 20, 5), 1, 2, 53, 50, 9, 46, 9, 1, 1, 1);
        does(Code.word(3, 2, 3, 20, 5), 1, 2, -47, 50, 9, 46, 9, 1, 1, 1);
        does(Code.word(4, 2, 3, 20, 5), 1, 2, 150, 50, 9, 46, 9, 1, 1, 1);
        does(Code.word(5, 2, 3, 20, 5), 1, 2, Code.put(2, 4), 50, 9, 46, 9, 1, 1, 1);
        does(Code.word(6, 2, 3, 20, 5), 1, 2, 3, 50, 9, 46, 9, 1, 1, 1);
        does(Code.word(7, 2, 3, 20, 5), 1, 2, 3, 50, 20, 46, 9, 1, 1, 1);
        does(Code.word(8, 2, 3, 20, 5), 1, 2, 3, 50, 9, 46, 9, 1, 1, 1);
        does(Code.word(9, 2, 3, 20, 5), 1, 2, 3, 50, 9, 46, 9, 1, 2, 1);
        does(Code.word(10, 2, 3, 20, 5), 1, 2, 7, 50, 9, 46, 9, 0, 1, 1);
        does(Code.word(13, 2, 3, 20, 5), 1, 2, 3, 50, 9, 3, 9, 1, 1, 1);
    }

    /** Each part of the guest, its memory and the disk after the one instruction, which has a request before. */
    private static void does(int word8, int... due) {
        MovingGuest x = beforeWord8(word8);
        Check.due("run of " + word8, x.run(0, 1), 1);
        Guests.guest("after " + word8, x, 0, due);
        Check.due("output 0", x.output(0, 0), 2);
        Check.due("output 1", x.output(0, 1), due[8] == 2 ? 3 : 0);
        for (int i : new int[] {0, 6, 8, 55}) {
            int before = i == 0 ? Code.set(0, 1) : i == 6 ? Code.put(2, 4) : i == 8 ? word8 : 2;
            Check.due("word " + i, x.memory(0, i), (word8 & 15) == 6 && i == 6 ? 3 : before);
        }
        Check.due("the order of before", x.disk(0), 1);
        Check.due("block 4", x.block(4), 3);
    }

    private static void putAndGetWithoutRequest() {
        Check.sentence("11, 12: else it has the request; else R(a) is the disk's word");
        MovingGuest x = beforeWord8(Code.put(1, 5));
        Check.due("disk", x.disk(0), 1);
        Guests.runs(x, 0, 1);
        Guests.guest("11", x, 0, 1, 2, 3, 50, 9, 46, 9, 1, 1, 1);
        Check.due("disk", x.disk(0), 1);
        Check.due("block 5", x.block(5), 2);
        x = beforeWord8(Code.get(1, 4));
        Check.due("disk", x.disk(0), 1);
        Guests.runs(x, 0, 1);
        Guests.guest("12", x, 0, 1, 3, 3, 50, 9, 46, 9, 1, 1, 0);
        Check.due("12 makes no order", x.disk(0), NO);
    }

    /** Register 0 after op with left in register 0 and right in register 1. */
    private static void calculates(int op, int left, int right, int due) {
        MovingGuest x = Guests.on0With(left, right, Code.load(0, 3, 40), Code.load(1, 3, 41),
                Code.word(op, 0, 1, 0, 0));
        Guests.runs(x, 0, 3);
        Guests.guest(left + " op " + op + " " + right, x, 0, due, right, 0, 0);
    }

    private static void additionWraps() {
        Check.sentence("2: R(a) + R(b), wrapping");
        calculates(2, GREATEST, 0, GREATEST);
        calculates(2, GREATEST - 1, 1, GREATEST);
        calculates(2, GREATEST, 1, LEAST);
        calculates(2, 1, GREATEST, LEAST);
        calculates(2, LEAST + 1, -1, LEAST);
        calculates(2, LEAST, -1, GREATEST);
        calculates(2, LEAST, LEAST, 0);
        calculates(2, GREATEST, GREATEST, -2);
    }

    private static void subtractionWraps() {
        Check.sentence("3: R(a) - R(b), wrapping");
        calculates(3, LEAST + 1, 1, LEAST);
        calculates(3, LEAST, 1, GREATEST);
        calculates(3, GREATEST - 1, -1, GREATEST);
        calculates(3, GREATEST, -1, LEAST);
        calculates(3, 0, GREATEST, LEAST + 1);
        calculates(3, 0, LEAST, LEAST);
        calculates(3, -1, LEAST, GREATEST);
        calculates(3, LEAST, LEAST, 0);
    }

    private static void multiplicationWraps() {
        Check.sentence("4: R(a) * R(b), wrapping");
        calculates(4, 46340, 46340, 2147395600);
        calculates(4, 46341, 46341, -2147479015);
        calculates(4, 65536, 32767, 2147418112);
        calculates(4, 65536, 32768, LEAST);
        calculates(4, 65536, 65536, 0);
        calculates(4, GREATEST, -1, LEAST + 1);
        calculates(4, LEAST, -1, LEAST);
        calculates(4, LEAST, 2, 0);
        calculates(4, GREATEST, GREATEST, 1);
    }

    private static void registerWithItself() {
        Check.sentence("R(a) and R(b) may be one register");
        MovingGuest x = Guests.on0With(55, 0, Code.set(2, 7), Code.add(2, 2), Code.multiply(2, 2),
                Code.store(2, 2, 37), Code.load(2, 2, 36), Code.subtract(2, 2));
        Guests.runs(x, 0, 2);
        Check.due("7 + 7", x.guest(0, 2), 14);
        Guests.runs(x, 0, 1);
        Check.due("14 * 14", x.guest(0, 2), 196);
        Guests.runs(x, 0, 1);
        Check.due("the word at (196 + 37) & 63", x.memory(0, 41), 196);
        Guests.runs(x, 0, 1);
        Check.due("the word at (196 + 36) & 63", x.guest(0, 2), 55);
        Guests.runs(x, 0, 1);
        Check.due("55 - 55", x.guest(0, 2), 0);
    }

    private static void jumpOnlyIfZero() {
        Check.sentence("8: if R(a) is 0, the counter is k");
        int[] values = {0, 1, -1, 256, 65536, LEAST, GREATEST};
        for (int value : values) {
            MovingGuest x = Guests.on0With(value, 0, Code.load(2, 0, 40), Code.jumpIfZero(2, 63));
            Guests.runs(x, 0, 2);
            Guests.guest("with " + value, x, 0, 0, 0, value, 0, value == 0 ? 63 : 2, 0, 2, 0, 0, 0);
        }
    }

    private static void inputThatHasNone() {
        Check.sentence("10: the oldest word of the input, which leaves it; -1 if there is none");
        MovingGuest x = Guests.on0(Code.set(0, 5), Code.read(0), Code.read(0), Code.read(1), Code.read(2),
                Code.read(2));
        Guests.runs(x, 0, 2);
        Check.due("none", x.guest(0, 0), -1);
        Check.due("words", x.guest(0, 7), 0);
        Check.due("the first after that", x.input(0, 9), 1);
        Guests.runs(x, 0, 1);
        Check.due("the only word", x.guest(0, 0), 9);
        Check.due("words", x.guest(0, 7), 0);
        Check.due("a word of 0", x.input(0, 0), 1);
        Guests.runs(x, 0, 1);
        Check.due("it is read as 0", x.guest(0, 1), 0);
        Check.due("greatest", x.input(0, GREATEST), 1);
        Check.due("least", x.input(0, LEAST), 2);
        Guests.runs(x, 0, 1);
        Check.due("greatest", x.guest(0, 2), GREATEST);
        Guests.runs(x, 0, 1);
        Check.due("least", x.guest(0, 2), LEAST);
        Check.due("halts", x.run(0, 1), 0);
    }

    private static void getOfAnEmptyBlock() {
        Check.sentence("blocks 0 .. 7, a word each (0 at first)");
        MovingGuest x = Guests.on0(Code.set(1, 5), Code.get(1, 0), Code.set(2, 5), Code.get(2, 7));
        Guests.runs(x, 0, 4);
        Guests.guest("read", x, 0, 0, 0, 0, 0, 4, 0, 4, 0, 0, 0);
        Check.due("reading makes no order", x.disk(0), NO);
    }

    private static void timerThatIsOff() {
        Check.sentence("a TIMER (0: off)");
        MovingGuest x = Guests.on0(Code.set(3, 7), Code.jump(1));
        Guests.runs(x, 0, 100);
        Guests.runs(x, 0, 100);
        Guests.runs(x, 0, 100);
        Guests.guest("no ring", x, 0, 0, 0, 0, 7, 1, 0, 300);
    }

    /** A guest that did the 13 with this value in register 0, from word 1, and goes round at word 2. */
    private static MovingGuest withTimer(int value) {
        MovingGuest x = Guests.on0With(value, 0, Code.load(0, 1, 40), Code.timer(0), Code.jump(2));
        Guests.runs(x, 0, 2);
        return x;
    }

    private static void timerOfOne() {
        Check.sentence("13: the timer is R(a) & 255, plus 1; if it is 0 then, R(3) is the counter, and it is 56");
        Guests.guest("a timer of 1 rings with the 13 itself", withTimer(0), 0, 0, 0, 0, 2, 56, 0, 2);
    }

    private static void timerOfTwo() {
        Check.sentence("then, if the timer is not 0, it is one less");
        MovingGuest x = withTimer(1);
        Guests.guest("a timer of 2 is 1", x, 0, 1, 0, 0, 0, 2, 1, 2);
        Guests.runs(x, 0, 1);
        Guests.guest("and then 0", x, 0, 1, 0, 0, 2, 56, 0, 3);
    }

    private static void timerMask() {
        Check.sentence("R(a) & 255");
        int[][] cases = {{2, 2}, {254, 254}, {255, 255}, {257, 1}, {511, 255}, {-1, 255}, {-255, 1}, {GREATEST, 255},
            {LEAST + 1, 1}};
        for (int[] c : cases) {
            Guests.guest("timer by " + c[0], withTimer(c[0]), 0, c[0], 0, 0, 0, 2, c[1]);
        }
        int[] ringing = {0, 256, 512, -256, LEAST};
        for (int value : ringing) {
            Guests.guest("timer by " + value, withTimer(value), 0, value, 0, 0, 2, 56, 0);
        }
    }

    private static void timerOf256() {
        Check.sentence("a timer of 256 comes to 0 with the 255th instruction behind the 13");
        MovingGuest x = withTimer(255);
        Guests.runs(x, 0, 100);
        Guests.runs(x, 0, 100);
        Guests.runs(x, 0, 54);
        Guests.guest("the last before", x, 0, 255, 0, 0, 0, 2, 1, 256);
        Guests.runs(x, 0, 1);
        Guests.guest("the ring", x, 0, 255, 0, 0, 2, 56, 0, 257);
        Check.due("halts at 56", x.run(0, 9), 0);
    }

    private static void timerSetAnew() {
        Check.sentence("13 sets a timer that would come to 0");
        MovingGuest x = Guests.on0(Code.set(0, 1), Code.timer(0), Code.timer(0), Code.timer(1));
        Guests.runs(x, 0, 3);
        Guests.guest("set anew", x, 0, 1, 0, 0, 0, 3, 1);
        Guests.runs(x, 0, 1);
        Guests.guest("set to 1", x, 0, 1, 0, 0, 4, 56, 0);
    }

    private static void timerTakesRegister3() {
        Check.sentence("R(3) is the counter");
        MovingGuest x = Guests.on0(Code.set(0, 1), Code.timer(0), Code.set(3, 1000));
        Guests.runs(x, 0, 3);
        Guests.guest("in place of what was just set", x, 0, 1, 0, 0, 3, 56, 0);
        x = Guests.on0(Code.set(0, 1), Code.timer(0), Code.jump(40));
        Guests.runs(x, 0, 3);
        Guests.guest("where a jump goes", x, 0, 1, 0, 0, 40, 56, 0);
        x = Guests.on0(Code.set(0, 1), Code.timer(0), Code.jumpIfZero(0, 40));
        Guests.runs(x, 0, 3);
        Guests.guest("where an 8 goes on", x, 0, 1, 0, 0, 3, 56, 0);
        x = Guests.on0(Code.set(0, 1), Code.timer(0), Code.jumpIfZero(1, 41));
        Guests.runs(x, 0, 3);
        Guests.guest("where an 8 jumps", x, 0, 1, 0, 0, 41, 56, 0);
    }

    private static void timerBehindTheLastWord() {
        Check.sentence("the counter is the next one (63: 0); then R(3) is the counter");
        MovingGuest x = new MovingGuest();
        Guests.image(x, Code.set(3, 9), Code.jump(63));
        Guests.imageAt(x, 63, Code.timer(0));
        Check.due("create", x.create(0), 1);
        Guests.runs(x, 0, 3);
        Guests.guest("ring at 63", x, 0, 0, 0, 0, 0, 56, 0, 3);
    }

    private static void timerStandsStill() {
        Check.sentence("unless it halts or waits (then all is as before)");
        MovingGuest x = Guests.on0(Code.set(0, 2), Code.timer(0), Code.put(0, 1), Code.put(1, 2));
        Guests.runs(x, 0, 3);
        Guests.guest("a timer of 1", x, 0, 2, 0, 0, 0, 3, 1, 3, 0, 0, 1);
        Check.due("waits", x.run(0, 100), 0);
        Guests.guest("still", x, 0, 2, 0, 0, 0, 3, 1, 3, 0, 0, 1);
        Check.due("disk", x.disk(0), 1);
        Check.due("goes on", x.run(0, 1), 1);
        Guests.guest("the ring", x, 0, 2, 0, 0, 4, 56, 0, 4, 0, 0, 1);
    }

    private static void timerWithinARun() {
        Check.sentence("the counter is 56: the run goes on there");
        MovingGuest x = new MovingGuest();
        Guests.image(x, Code.set(0, 3), Code.timer(0), Code.jump(2));
        Guests.imageAt(x, 56, Code.write(3), Code.timer(0), Code.jump(2));
        Check.due("create", x.create(0), 1);
        Guests.runs(x, 0, 5);
        Guests.guest("the ring after 3 more", x, 0, 3, 0, 0, 2, 56, 0, 5, 0, 0);
        Guests.runs(x, 0, 5);
        Guests.guest("the second ring", x, 0, 3, 0, 0, 2, 56, 0, 10, 0, 1);
        Guests.runs(x, 0, 90);
        Guests.guest("a ring each 5", x, 0, 3, 0, 0, 2, 56, 0, 100, 0, 19);
    }

    private static void codeThatChangesItself() {
        Check.sentence("AN INSTRUCTION is the word v at the counter");
        MovingGuest x = Guests.on0With(Code.set(2, 8), 0, Code.load(0, 1, 40), Code.store(0, 1, 2), Code.HALT,
                Code.store(3, 3, 0), Code.jump(0));
        Guests.runs(x, 0, 3);
        Check.due("the word that took the place of a halt", x.guest(0, 2), 8);
        Guests.runs(x, 0, 2);
        Check.due("halts at word 0, which is 0 now", x.run(0, 9), 0);
        Check.due("counter", x.guest(0, 4), 0);
    }
}
