import java.util.ArrayList;
import java.util.List;
import java.util.Random;

/**
 * Many runs of calls, drawn from fixed seeds, on the program and the model: every answer is the same,
 * and so is all that can be read behind the last call. An object is good for 512 calls, too few for all
 * readings at once, so new objects get the same run again, and each of them is asked for a part.
 */
final class ModelTest {
    private static final int RUNS = 20000;
    private static final int LIMIT = 512;
    private static final int IMAGE = 64;
    private static final int MOST_CALLS = 400;
    private static final List<Call> READINGS = Call.readings();

    private static int handOvers = 0;
    private static int takeOvers = 0;
    private static int ordersTooOld = 0;
    private static int abortsWhenReady = 0;

    private final int seed;
    private final Random random;
    private final Model model = new Model();
    private final List<Call> calls = new ArrayList<>();
    private final List<Integer> due = new ArrayList<>();

    private ModelTest(int seed) {
        this.seed = seed;
        random = new Random(seed);
    }

    public static void main(String[] args) {
        int wrong = 0;
        for (int seed = 0; seed < RUNS && wrong < 5; seed++) {
            ModelTest run = new ModelTest(seed);
            run.draw();
            wrong += run.isAsInTheModel() ? 0 : 1;
        }
        Check.due("runs not as in the model", wrong, 0);
        // Runs that never come that far would show nothing.
        Check.due("some hand-overs", handOvers > RUNS / 10, true);
        Check.due("some take-overs", takeOvers > RUNS / 100, true);
        Check.due("some orders too old", ordersTooOld > RUNS / 100, true);
        Check.due("some aborts when ready", abortsWhenReady > RUNS / 100, true);
        Check.end();
    }

    private boolean isAsInTheModel() {
        int part = LIMIT - calls.size();
        for (int from = 0; from < READINGS.size(); from += part) {
            MovingGuest x = new MovingGuest();
            for (int i = 0; i < calls.size(); i++) {
                if (!answers(x, calls.get(i), due.get(i))) {
                    System.out.println("  as call " + (i + 1) + " of run " + seed);
                    return false;
                }
            }
            for (int i = from; i < from + part && i < READINGS.size(); i++) {
                if (!answers(x, READINGS.get(i), READINGS.get(i).on(model))) {
                    System.out.println("  behind the " + calls.size() + " calls of run " + seed);
                    return false;
                }
            }
        }
        return true;
    }

    private static boolean answers(MovingGuest x, Call call, int wanted) {
        int got = call.on(x);
        if (got != wanted) {
            System.out.println(call + " answered " + got + ", due is " + wanted);
        }
        return got == wanted;
    }

    private void draw() {
        for (int i = 0; i < IMAGE; i++) {
            take(new Call("image", i, drawWord()));
        }
        int end = IMAGE + 1 + random.nextInt(MOST_CALLS - IMAGE);
        while (calls.size() < end) {
            boolean wasReady = model.ready();
            int holder = model.holder();
            Call call = drawCall();
            int answer = take(call);
            handOvers += holder >= 0 && model.holder() == 1 - holder ? 1 : 0;
            takeOvers += call.name().equals("takeOver") && answer == 1 ? 1 : 0;
            ordersTooOld += call.name().equals("disk") && answer == 0 ? 1 : 0;
            abortsWhenReady += call.name().equals("abort") && answer == 1 && wasReady ? 1 : 0;
        }
    }

    private int take(Call call) {
        int answer = call.on(model);
        calls.add(call);
        due.add(answer);
        return answer;
    }

    private int drawWord() {
        int w = random.nextInt();
        if ((w & 15) == 0 || (w & 15) > 13) {
            w = w & ~15 | 1 + random.nextInt(13);
        }
        return random.nextInt(40) == 0 ? w & ~15 : w;
    }

    private int drawHost() {
        int drawn = random.nextInt(100);
        return drawn == 0 ? -1 : drawn == 1 ? 2 : drawn == 2 ? random.nextInt() : drawn % 2;
    }

    /** Most often a host that does something there. */
    private int drawHolder() {
        return model.holder() >= 0 && random.nextInt(8) != 0 ? model.holder() : drawHost();
    }

    private int drawPiece() {
        int size = model.link.size();
        int drawn = random.nextInt(100);
        return drawn == 0 ? -1 : drawn == 1 ? size : drawn == 2 ? random.nextInt() : random.nextInt(size + 1);
    }

    private Call drawCall() {
        if (random.nextInt(20) == 0) {
            return READINGS.get(random.nextInt(READINGS.size()));
        }
        if (random.nextInt(3) == 0) {
            return drawNextOfMove();
        }
        // A target is ready for few calls only, so what may become of it is drawn more often then.
        int drawn = model.ready() && random.nextInt(4) == 0 ? 955 + random.nextInt(45) : random.nextInt(1000);
        return drawn < 480 ? drawGuestCall(drawn) : drawLinkOrHostCall(drawn);
    }

    /** What brings a guest and its move on: calls drawn blindly seldom get as far as a hand-over. */
    private Call drawNextOfMove() {
        if (model.course == null && model.holder() < 0) {
            int host = random.nextInt(2);
            return new Call(model.up[host] ? "create" : "back", host);
        }
        if (model.course == null) {
            return model.up[1 - model.holder()] ? new Call("move") : new Call("back", 1 - model.holder());
        }
        return model.link.isEmpty() ? new Call("step") : new Call("deliver", random.nextInt(model.link.size()));
    }

    private Call drawGuestCall(int drawn) {
        if (drawn < 20) {
            return new Call("image", random.nextInt(68) - 2, drawWord());
        } else if (drawn < 60) {
            return new Call("create", drawHost());
        } else if (drawn < 140) {
            int n = random.nextInt(10) == 0 ? random.nextInt(104) - 1 : 1 + random.nextInt(6);
            return new Call("run", drawHolder(), n);
        } else if (drawn < 170) {
            return new Call("input", drawHolder(), random.nextInt());
        } else if (drawn < 200) {
            return new Call("disk", drawHost());
        } else if (drawn < 240) {
            return new Call("move");
        }
        return new Call("step");
    }

    private Call drawLinkOrHostCall(int drawn) {
        if (drawn < 920) {
            return new Call("deliver", drawPiece());
        } else if (drawn < 935) {
            return new Call("lose", drawPiece());
        } else if (drawn < 955) {
            return new Call("twice", drawPiece());
        } else if (drawn < 959) {
            return new Call("abort");
        } else if (drawn < 965) {
            return new Call("crash", drawHost());
        } else if (drawn < 985) {
            return new Call("back", drawHost());
        }
        return new Call("takeOver");
    }
}
