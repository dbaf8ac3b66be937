import java.util.ArrayList;
import java.util.Arrays;
import java.util.List;

/**
 * The document once more, written apart from the program: guests, targets and pieces are made and
 * thrown away, a piece has all that it carries, and what is not there is null.
 */
final class Model {
    static final class State {
        int[] r = new int[4];
        int counter;
        int timer;
        int retired;
        List<Integer> in = new ArrayList<>();
        List<Integer> out = new ArrayList<>();
        int[] request;

        State copy() {
            State s = new State();
            s.r = r.clone();
            s.counter = counter;
            s.timer = timer;
            s.retired = retired;
            s.in = new ArrayList<>(in);
            s.out = new ArrayList<>(out);
            s.request = request == null ? null : request.clone();
            return s;
        }
    }

    static final class Guest {
        int[] m;
        State s;
        boolean stopped;

        Guest(int[] m, State s) {
            this.m = m;
            this.s = s;
        }
    }

    static final class Target {
        final int move;
        final int[] m = new int[64];
        final int[] serials = new int[8];
        State s;

        Target(int move) {
            this.move = move;
        }
    }

    record Piece(int kind, int move, int page, int serial, int[] words, State state) {
    }

    static final class Course {
        final int number;
        final int from;
        final String[] pages = new String[8];
        int steps;
        int serial;
        int latest = 7;
        boolean stopped;

        Course(int number, int from) {
            this.number = number;
            this.from = from;
            Arrays.fill(pages, "due");
        }

        int unknown() {
            return (int) Arrays.stream(pages).filter(p -> !p.equals("known")).count();
        }
    }

    final int[] image = new int[64];
    final int[] disk = new int[8];
    final boolean[] up = {true, true};
    final Guest[] guests = new Guest[2];
    final Target[] targets = new Target[2];
    final int[][] orders = new int[2][];
    final List<Piece> link = new ArrayList<>();
    int owner = -2;
    int number;
    int moves;
    Course course;

    static boolean host(int host) {
        return host == 0 || host == 1;
    }

    boolean runs(int host) {
        return up[host] && guests[host] != null && owner == host && !guests[host].stopped;
    }

    int image(int i, int w) {
        if (i < 0 || i > 63) {
            return 0;
        }
        image[i] = w;
        return 1;
    }

    int create(int host) {
        if (!host(host)) {
            return -1;
        }
        if (!up[host] || guests[0] != null || guests[1] != null || course != null) {
            return -2;
        }
        guests[host] = new Guest(image.clone(), new State());
        owner = host;
        return ++number;
    }

    int run(int host, int n) {
        if (!host(host) || n < 1 || n > 100) {
            return -1;
        }
        if (!runs(host)) {
            return -2;
        }
        int before = guests[host].s.retired;
        for (int i = 0; i < n; i++) {
            instruction(host);
        }
        return guests[host].s.retired - before;
    }

    void instruction(int host) {
        Guest g = guests[host];
        State s = g.s;
        int v = g.m[s.counter];
        int op = v & 15;
        int a = v >> 4 & 3;
        int b = v >> 6 & 3;
        int k = v >> 8 & 63;
        int at = s.r[b] + k & 63;
        int next = s.counter == 63 ? 0 : s.counter + 1;
        if (op == 0 || op > 13 || (op == 11 || op == 12) && s.request != null) {
            return;
        } else if (op == 1) {
            s.r[a] = v >> 16;
        } else if (op == 2) {
            s.r[a] = s.r[a] + s.r[b];
        } else if (op == 3) {
            s.r[a] = s.r[a] - s.r[b];
        } else if (op == 4) {
            s.r[a] = s.r[a] * s.r[b];
        } else if (op == 5) {
            s.r[a] = g.m[at];
        } else if (op == 6) {
            g.m[at] = s.r[a];
            if (course != null) {
                course.pages[at / 8] = "due";
            }
        } else if (op == 7 || op == 8 && s.r[a] == 0) {
            next = k;
        } else if (op == 9 && s.out.size() < 40) {
            s.out.add(s.r[a]);
        } else if (op == 10) {
            s.r[a] = s.in.isEmpty() ? -1 : s.in.remove(0);
        } else if (op == 11) {
            s.request = new int[] {k & 7, s.r[a]};
            order(host);
        } else if (op == 12) {
            s.r[a] = disk[k & 7];
        } else if (op == 13) {
            s.timer = (s.r[a] & 255) + 1;
        }
        s.retired++;
        s.counter = next;
        if (s.timer != 0 && --s.timer == 0) {
            s.r[3] = s.counter;
            s.counter = 56;
        }
    }

    void order(int host) {
        int[] request = guests[host].s.request;
        if (request != null) {
            orders[host] = new int[] {request[0], request[1], number};
        }
    }

    int input(int host, int w) {
        if (!host(host)) {
            return -1;
        }
        if (!runs(host)) {
            return -2;
        }
        List<Integer> in = guests[host].s.in;
        if (in.size() >= 8) {
            return -3;
        }
        in.add(w);
        return in.size();
    }

    int disk(int host) {
        if (!host(host)) {
            return -1;
        }
        if (!up[host] || orders[host] == null || guests[host] != null && guests[host].stopped) {
            return -2;
        }
        int[] order = orders[host];
        orders[host] = null;
        if (order[2] != number) {
            return 0;
        }
        disk[order[0]] = order[1];
        if (guests[host] != null) {
            guests[host].s.request = null;
        }
        return 1;
    }

    int move() {
        if (course != null || owner < 0 || !runs(owner) || !up[1 - owner]) {
            return -2;
        }
        course = new Course(++moves, owner);
        targets[1 - owner] = new Target(moves);
        return moves;
    }

    void come(Piece piece) {
        if (link.size() < 8) {
            link.add(piece);
        }
    }

    int step() {
        if (course == null || guests[course.from] == null) {
            return -2;
        }
        Guest g = guests[course.from];
        if (course.steps >= 40 || course.steps >= 8 && course.unknown() <= 2) {
            stop(g);
        }
        course.steps++;
        for (int i = 1; i <= 8; i++) {
            int page = (course.latest + i) % 8;
            if (course.pages[page].equals("due")) {
                course.latest = page;
                course.pages[page] = "sent " + ++course.serial;
                int[] words = Arrays.copyOfRange(g.m, 8 * page, 8 * page + 8);
                come(new Piece(1, course.number, page, course.serial, words, null));
                return 1;
            }
        }
        if (course.unknown() != 0) {
            for (int i = 0; i < 8; i++) {
                course.pages[i] = course.pages[i].equals("known") ? "known" : "due";
            }
            return 3;
        }
        if (!g.stopped) {
            stop(g);
            return 4;
        }
        come(new Piece(2, course.number, 0, 0, null, g.s.copy()));
        return 2;
    }

    void stop(Guest g) {
        g.stopped = true;
        course.stopped = true;
    }

    int deliver(int k) {
        if (k < 0 || k >= link.size()) {
            return -1;
        }
        Piece p = link.remove(k);
        boolean goesOn = course != null && course.number == p.move();
        for (int host = 0; host < 2; host++) {
            Target t = targets[host];
            if (t != null && up[host] && t.move == p.move() && p.kind() == 1) {
                if (p.serial() > t.serials[p.page()]) {
                    t.serials[p.page()] = p.serial();
                    System.arraycopy(p.words(), 0, t.m, 8 * p.page(), 8);
                }
                come(new Piece(3, p.move(), p.page(), p.serial(), null, null));
            }
            if (t != null && up[host] && t.move == p.move() && p.kind() == 2) {
                t.s = t.s == null ? p.state().copy() : t.s;
                come(new Piece(4, p.move(), 0, 0, null, null));
            }
        }
        if (p.kind() == 3 && goesOn && guests[course.from] != null
                && course.pages[p.page()].equals("sent " + p.serial())) {
            course.pages[p.page()] = "known";
        }
        if (p.kind() == 4 && goesOn && guests[course.from] != null && ready()) {
            handOver();
        }
        return p.kind();
    }

    boolean ready() {
        return course != null && targets[1 - course.from] != null && targets[1 - course.from].s != null;
    }

    void handOver() {
        int to = 1 - course.from;
        guests[to] = new Guest(targets[to].m, targets[to].s);
        guests[course.from] = null;
        owner = to;
        number++;
        order(to);
        end();
    }

    void end() {
        course = null;
        Arrays.fill(targets, null);
    }

    int lose(int k) {
        return k < 0 || k >= link.size() ? -1 : link.remove(k).kind();
    }

    int twice(int k) {
        if (k < 0 || k >= link.size()) {
            return -1;
        }
        if (link.size() == 8) {
            return -3;
        }
        link.add(link.get(k));
        return link.size();
    }

    int abort() {
        if (course == null) {
            return 0;
        }
        int from = course.from;
        end();
        if (guests[from] != null) {
            guests[from].stopped = false;
            number++;
            order(from);
        }
        return 1;
    }

    int crash(int host) {
        if (!host(host) || !up[host]) {
            return 0;
        }
        up[host] = false;
        guests[host] = null;
        orders[host] = null;
        targets[host] = null;
        if (course != null && guests[course.from] == null && !ready()) {
            end();
        }
        return 1;
    }

    int back(int host) {
        if (!host(host) || up[host]) {
            return 0;
        }
        up[host] = true;
        return 1;
    }

    int takeOver() {
        if (course == null || guests[course.from] != null || !ready()) {
            return 0;
        }
        handOver();
        return 1;
    }

    int holder() {
        return guests[0] != null ? 0 : guests[1] != null ? 1 : -2;
    }

    int told(int what) {
        int unknown = course == null ? 0 : course.unknown();
        int stopped = course != null && course.stopped ? 1 : 0;
        int[] all = {owner, number, course == null ? 0 : course.number, course == null ? -2 : course.from, stopped,
            unknown, link.size(), ready() ? 1 : 0, course == null ? 0 : course.steps};
        return what >= 0 && what < all.length ? all[what] : -1;
    }

    int piece(int k, int what) {
        if (k < 0 || k >= link.size() || what < 0 || what > 3) {
            return -1;
        }
        Piece p = link.get(k);
        return new int[] {p.kind(), p.move(), p.page(), p.serial()}[what];
    }

    int guest(int host, int what) {
        if (!host(host) || guests[host] == null || what < 0 || what > 9) {
            return 0;
        }
        State s = guests[host].s;
        return new int[] {s.r[0], s.r[1], s.r[2], s.r[3], s.counter, s.timer, s.retired, s.in.size(), s.out.size(),
            s.request == null ? 0 : 1}[what];
    }

    int memory(int host, int i) {
        if (!host(host) || i < 0 || i > 63) {
            return 0;
        }
        if (guests[host] != null) {
            return guests[host].m[i];
        }
        return targets[host] != null ? targets[host].m[i] : 0;
    }

    int output(int host, int i) {
        boolean is = host(host) && guests[host] != null && i >= 0 && i < guests[host].s.out.size();
        return is ? guests[host].s.out.get(i) : 0;
    }

    int isUp(int host) {
        return host(host) && up[host] ? 1 : 0;
    }

    int block(int i) {
        return i >= 0 && i < 8 ? disk[i] : 0;
    }
}
