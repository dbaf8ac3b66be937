/** Promise 5: input. */
final class InputTest {
    private static final int BAD = MovingGuest.BAD;
    private static final int NO = MovingGuest.NO;
    private static final int FULL = MovingGuest.FULL;

    public static void main(String[] args) {
        fills();
        wrongHosts();
        stopped();
        moves();
        Check.end();
    }

    private static void fills() {
        MovingGuest x = Guests.on0(Code.read(0), Code.write(0), Code.jump(0));
        for (int i = 1; i <= 8; i++) {
            Check.due("input " + i, x.input(0, 100 + i), i);
        }
        Check.due("a ninth", x.input(0, 109), FULL);
        Check.due("words", x.guest(0, 7), 8);
        Check.due("run", x.run(0, 1), 1);
        Check.due("room again", x.input(0, 110), 8);
        Check.due("run", x.run(0, 26), 26);
        for (int i = 0; i < 8; i++) {
            Check.due("in their order", x.output(0, i), 101 + i);
        }
        Check.due("and the late one", x.output(0, 8), 110);
    }

    private static void wrongHosts() {
        MovingGuest x = Guests.on0();
        Check.due("input(-1)", x.input(-1, 1), BAD);
        Check.due("input(2)", x.input(2, 1), BAD);
        Check.due("input where none is", x.input(1, 1), NO);
        Check.due("crash", x.crash(0), true);
        Check.due("input not up", x.input(0, 1), NO);
    }

    private static void stopped() {
        MovingGuest x = Guests.on0();
        Guests.movePages(x);
        Check.due("input before the stop", x.input(0, 5), 1);
        Check.due("step", x.step(), 2);
        Check.due("input when stopped", x.input(0, 6), NO);
        Check.due("input at the target", x.input(1, 6), NO);
        Check.due("abort", x.abort(), true);
        Check.due("input after the abort", x.input(0, 6), 2);
    }

    private static void moves() {
        MovingGuest x = Guests.on0(Code.read(0), Code.read(1));
        x.input(0, 31);
        x.input(0, 32);
        x.input(0, 33);
        Guests.wholeMove(x);
        Check.due("input at the old host", x.input(0, 1), NO);
        Check.due("input at the new host", x.input(1, 34), 4);
        Check.due("run", x.run(1, 5), 2);
        Check.due("oldest", x.guest(1, 0), 31);
        Check.due("next", x.guest(1, 1), 32);
        Check.due("left", x.guest(1, 7), 2);
    }
}
