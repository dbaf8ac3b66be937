import java.util.Random;

/**
 * Many runs of calls, drawn from fixed seeds, on the program and the model: all that can be read stays
 * the same. With the readings an object gets more than 512 calls; the program does not count them.
 */
final class ModelTest {
    private static final int RUNS = 3000;
    private static final int CALLS = 500;

    private final Random random;
    private final MovingGuest x = new MovingGuest();
    private final Model model = new Model();
    private String call = "";
    private int got;
    private int due;

    private ModelTest(long seed) {
        random = new Random(seed);
    }

    public static void main(String[] args) {
        int wrong = 0;
        int[] ends = new int[4];
        for (int seed = 0; seed < RUNS && wrong < 5; seed++) {
            wrong += new ModelTest(seed).run(seed, ends) ? 0 : 1;
        }
        // Runs that never come that far would show nothing.
        Check.due("runs as in the model", wrong, 0);
        Check.due("some hand-overs", ends[0] > RUNS / 10, true);
        Check.due("some take-overs", ends[1] > RUNS / 100, true);
        Check.due("some orders too old", ends[2] > RUNS / 100, true);
        Check.due("some aborts when ready", ends[3] > RUNS / 100, true);
        Check.end();
    }

    private boolean run(int seed, int[] ends) {
        drawImage();
        for (int i = 0; i < CALLS; i++) {
            boolean wasReady = model.ready();
            int holder = model.holder();
            drawCall();
            if (got != due) {
                System.out.println("run " + seed + ", call " + i + ": " + call
                        + " answered " + got + ", due is " + due);
                return false;
            }
            String differs = firstDifference();
            if (!differs.isEmpty()) {
                System.out.println("run " + seed + ", call " + i + ": after " + call + " differs " + differs);
                return false;
            }
            ends[0] += holder >= 0 && model.holder() == 1 - holder ? 1 : 0;
            ends[1] += call.equals("takeOver") && due == 1 ? 1 : 0;
            ends[2] += call.equals("disk") && due == 0 ? 1 : 0;
            ends[3] += call.equals("abort") && due == 1 && wasReady ? 1 : 0;
        }
        return true;
    }

    private void drawImage() {
        for (int i = 0; i < 64; i++) {
            int w = drawWord();
            x.image(i, w);
            model.image(i, w);
        }
    }

    private int drawWord() {
        int w = random.nextInt();
        if ((w & 15) == 0 || (w & 15) > 13) {
            w = w & ~15 | 1 + random.nextInt(13);
        }
        return random.nextInt(40) == 0 ? w & ~15 : w;
    }

    private int drawHost() {
        int drawn = random.nextInt(100);
        return drawn == 0 ? -1 : drawn == 1 ? 2 : drawn == 2 ? random.nextInt() : drawn % 2;
    }

    /** Most often a host that does something there. */
    private int drawHolder() {
        return model.holder() >= 0 && random.nextInt(8) != 0 ? model.holder() : drawHost();
    }

    private int drawPiece() {
        int size = model.link.size();
        int drawn = random.nextInt(100);
        return drawn == 0 ? -1 : drawn == 1 ? size : drawn == 2 ? random.nextInt() : random.nextInt(size + 1);
    }

    private void answer(String name, int answered, int wanted) {
        call = name;
        got = answered;
        due = wanted;
    }

    private void answer(String name, boolean answered, int wanted) {
        answer(name, answered ? 1 : 0, wanted);
    }

    private void drawCall() {
        // A target is ready for few calls only, so what may become of it is drawn more often then.
        int drawn = model.ready() && random.nextInt(4) == 0 ? 955 + random.nextInt(45) : random.nextInt(1000);
        if (drawn < 20) {
            int i = random.nextInt(68) - 2;
            int w = drawWord();
            answer("image", x.image(i, w), model.image(i, w));
        } else if (drawn < 60) {
            int host = drawHost();
            answer("create", x.create(host), model.create(host));
        } else if (drawn < 140) {
            int host = drawHolder();
            int n = random.nextInt(10) == 0 ? random.nextInt(104) - 1 : 1 + random.nextInt(6);
            answer("run", x.run(host, n), model.run(host, n));
        } else if (drawn < 170) {
            int host = drawHolder();
            int w = random.nextInt();
            answer("input", x.input(host, w), model.input(host, w));
        } else if (drawn < 200) {
            int host = drawHost();
            answer("disk", x.disk(host), model.disk(host));
        } else if (drawn < 240) {
            answer("move", x.move(), model.move());
        } else if (drawn < 480) {
            answer("step", x.step(), model.step());
        } else {
            drawLinkOrHostCall(drawn);
        }
    }

    private void drawLinkOrHostCall(int drawn) {
        int k = drawPiece();
        int host = drawHost();
        if (drawn < 920) {
            answer("deliver", x.deliver(k), model.deliver(k));
        } else if (drawn < 935) {
            answer("lose", x.lose(k), model.lose(k));
        } else if (drawn < 955) {
            answer("twice", x.twice(k), model.twice(k));
        } else if (drawn < 959) {
            answer("abort", x.abort(), model.abort());
        } else if (drawn < 965) {
            answer("crash", x.crash(host), model.crash(host));
        } else if (drawn < 985) {
            answer("back", x.back(host), model.back(host));
        } else {
            answer("takeOver", x.takeOver(), model.takeOver());
        }
    }

    private String firstDifference() {
        if (x.holder() != model.holder()) {
            return "holder";
        }
        for (int what = -1; what < 10; what++) {
            if (x.told(what) != model.told(what)) {
                return "told " + what;
            }
        }
        for (int k = -1; k < 9; k++) {
            for (int what = -1; what < 5; what++) {
                if (x.piece(k, what) != model.piece(k, what)) {
                    return "piece " + k + " " + what;
                }
            }
        }
        for (int i = -1; i < 9; i++) {
            if (x.block(i) != (i >= 0 && i < 8 ? model.disk[i] : 0)) {
                return "block " + i;
            }
        }
        for (int host = -1; host < 3; host++) {
            String differs = firstDifferenceOf(host);
            if (!differs.isEmpty()) {
                return differs + " of host " + host;
            }
        }
        return "";
    }

    private String firstDifferenceOf(int host) {
        if (x.isUp(host) != (Model.host(host) && model.up[host])) {
            return "isUp";
        }
        for (int what = -1; what < 11; what++) {
            if (x.guest(host, what) != model.guest(host, what)) {
                return "guest " + what;
            }
        }
        for (int i = -1; i < 65; i++) {
            if (x.memory(host, i) != model.memory(host, i)) {
                return "memory " + i;
            }
        }
        for (int i = -1; i < 41; i++) {
            if (x.output(host, i) != model.output(host, i)) {
                return "output " + i;
            }
        }
        return "";
    }
}
