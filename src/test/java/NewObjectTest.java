/** Promise 1: a new object; and the constants. */
final class NewObjectTest {
    private static final int BAD = MovingGuest.BAD;
    private static final int NO = MovingGuest.NO;

    public static void main(String[] args) {
        Check.due("BAD", MovingGuest.BAD, -1);
        Check.due("NO", MovingGuest.NO, -2);
        Check.due("FULL", MovingGuest.FULL, -3);
        MovingGuest x = new MovingGuest();
        nothingButTwoHosts(x);
        nothingCanBeDone(x);
        nothingButTwoHosts(x);
        imageOfZeros();
        objectsAreApart();
        Check.end();
    }

    private static void nothingButTwoHosts(MovingGuest x) {
        Guests.told("new", x, NO, 0, 0, NO, 0, 0, 0, 0, 0);
        Check.due("holder", x.holder(), NO);
        Check.due("piece", x.piece(0, 0), BAD);
        for (int i = 0; i < 8; i++) {
            Check.due("block", x.block(i), 0);
        }
        for (int host = 0; host < 2; host++) {
            Check.due("isUp", x.isUp(host), true);
            Check.due("memory", x.memory(host, 0), 0);
            Check.due("output", x.output(host, 0), 0);
            for (int what = 0; what < 10; what++) {
                Check.due("guest", x.guest(host, what), 0);
            }
        }
    }

    private static void nothingCanBeDone(MovingGuest x) {
        Check.due("run", x.run(0, 1), NO);
        Check.due("input", x.input(1, 1), NO);
        Check.due("disk", x.disk(0), NO);
        Check.due("move", x.move(), NO);
        Check.due("step", x.step(), NO);
        Check.due("deliver", x.deliver(0), BAD);
        Check.due("lose", x.lose(0), BAD);
        Check.due("twice", x.twice(0), BAD);
        Check.due("abort", x.abort(), false);
        Check.due("back", x.back(0), false);
        Check.due("takeOver", x.takeOver(), false);
    }

    private static void imageOfZeros() {
        MovingGuest x = new MovingGuest();
        Check.due("create", x.create(1), 1);
        for (int i = 0; i < 64; i++) {
            Check.due("memory", x.memory(1, i), 0);
        }
        Check.due("run halts at once", x.run(1, 100), 0);
    }

    private static void objectsAreApart() {
        MovingGuest one = Guests.on0(5);
        MovingGuest two = new MovingGuest();
        Check.due("holder of one", one.holder(), 0);
        Check.due("holder of two", two.holder(), NO);
        Check.due("create", two.create(1), 1);
        Check.due("memory of two", two.memory(1, 0), 0);
    }
}
