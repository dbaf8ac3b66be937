/** Objects brought to where a test begins; each helper looks at the answers on its way. */
final class Guests {
    private Guests() {
    }

    static void image(MovingGuest x, int... words) {
        imageAt(x, 0, words);
    }

    static void imageAt(MovingGuest x, int from, int... words) {
        for (int i = 0; i < words.length; i++) {
            Check.due("image " + (from + i), x.image(from + i, words[i]), true);
        }
    }

    /** A new object whose host 0 holds a guest with these words from 0 on. */
    static MovingGuest on0(int... words) {
        MovingGuest x = new MovingGuest();
        image(x, words);
        Check.due("create(0)", x.create(0), 1);
        return x;
    }

    /** As on0, with two more words at 40 and 41, where a program finds ints that no instruction holds. */
    static MovingGuest on0With(int word40, int word41, int... words) {
        MovingGuest x = new MovingGuest();
        image(x, words);
        imageAt(x, 40, word40, word41);
        Check.due("create(0)", x.create(0), 1);
        return x;
    }

    static void runs(MovingGuest x, int host, int n) {
        Check.due("run(" + host + ", " + n + ")", x.run(host, n), n);
    }

    /** What guest answers from what = 0 on. */
    static void guest(String where, MovingGuest x, int host, int... due) {
        for (int what = 0; what < due.length; what++) {
            Check.due(where + " guest(" + host + ", " + what + ")", x.guest(host, what), due[what]);
        }
    }

    /** Steps that send a page each; the pieces stay on the link. */
    static void sends(MovingGuest x, int n) {
        for (int i = 0; i < n; i++) {
            Check.due("step for page", x.step(), 1);
        }
    }

    static void loses(MovingGuest x, int n) {
        for (int i = 0; i < n; i++) {
            Check.due("lose", x.lose(0) > 0, true);
        }
    }

    /** Steps that send a page each, which arrives and is seen. */
    static void pages(MovingGuest x, int n) {
        for (int i = 0; i < n; i++) {
            Check.due("step for page", x.step(), 1);
            int last = x.told(6) - 1;
            Check.due("deliver PAGE", x.deliver(last), 1);
            Check.due("deliver SEEN", x.deliver(last), 3);
        }
    }

    /** A move begins, and all pages of it are known. */
    static void movePages(MovingGuest x) {
        Check.due("move", x.move() > 0, true);
        pages(x, 8);
        Check.due("pages not known", x.told(5), 0);
    }

    /** As movePages, and the target is ready; TAKEN is the latest piece of the link. */
    static void makeReady(MovingGuest x) {
        movePages(x);
        Check.due("step for state", x.step(), 2);
        Check.due("deliver STATE", x.deliver(x.told(6) - 1), 2);
        Check.due("ready", x.told(7), 1);
    }

    static void wholeMove(MovingGuest x) {
        makeReady(x);
        Check.due("deliver TAKEN", x.deliver(x.told(6) - 1), 4);
    }

    /** What told answers from what = 0 on. */
    static void told(String where, MovingGuest x, int... due) {
        for (int what = 0; what < due.length; what++) {
            Check.due(where + " told(" + what + ")", x.told(what), due[what]);
        }
    }
}
