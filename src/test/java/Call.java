import java.util.ArrayList;
import java.util.List;

/** One call of the face, which can be made on the program and on the model; true answers 1, false 0. */
record Call(String name, int a, int b) {
    Call(String name, int a) {
        this(name, a, 0);
    }

    Call(String name) {
        this(name, 0, 0);
    }

    /** Every reading there is, and those just outside. */
    static List<Call> readings() {
        List<Call> all = new ArrayList<>();
        all.add(new Call("holder"));
        for (int what = -1; what < 10; what++) {
            all.add(new Call("told", what));
        }
        for (int k = -1; k < 9; k++) {
            addAll(all, "piece", k, 5);
        }
        for (int i = -1; i < 9; i++) {
            all.add(new Call("block", i));
        }
        for (int host = -1; host < 3; host++) {
            all.add(new Call("isUp", host));
            addAll(all, "guest", host, 11);
            addAll(all, "memory", host, 65);
            addAll(all, "output", host, 41);
        }
        return all;
    }

    private static void addAll(List<Call> all, String name, int of, int below) {
        for (int what = -1; what < below; what++) {
            all.add(new Call(name, of, what));
        }
    }

    int on(MovingGuest x) {
        return switch (name) {
            case "image" -> x.image(a, b) ? 1 : 0;
            case "create" -> x.create(a);
            case "run" -> x.run(a, b);
            case "input" -> x.input(a, b);
            case "disk" -> x.disk(a);
            case "move" -> x.move();
            case "step" -> x.step();
            case "deliver" -> x.deliver(a);
            case "lose" -> x.lose(a);
            case "twice" -> x.twice(a);
            case "abort" -> x.abort() ? 1 : 0;
            case "crash" -> x.crash(a) ? 1 : 0;
            case "back" -> x.back(a) ? 1 : 0;
            case "takeOver" -> x.takeOver() ? 1 : 0;
            case "holder" -> x.holder();
            case "told" -> x.told(a);
            case "piece" -> x.piece(a, b);
            case "isUp" -> x.isUp(a) ? 1 : 0;
            case "guest" -> x.guest(a, b);
            case "memory" -> x.memory(a, b);
            case "output" -> x.output(a, b);
            case "block" -> x.block(a);
            default -> throw new IllegalArgumentException(name);
        };
    }

    int on(Model model) {
        return switch (name) {
            case "image" -> model.image(a, b);
            case "create" -> model.create(a);
            case "run" -> model.run(a, b);
            case "input" -> model.input(a, b);
            case "disk" -> model.disk(a);
            case "move" -> model.move();
            case "step" -> model.step();
            case "deliver" -> model.deliver(a);
            case "lose" -> model.lose(a);
            case "twice" -> model.twice(a);
            case "abort" -> model.abort();
            case "crash" -> model.crash(a);
            case "back" -> model.back(a);
            case "takeOver" -> model.takeOver();
            case "holder" -> model.holder();
            case "told" -> model.told(a);
            case "piece" -> model.piece(a, b);
            case "isUp" -> model.isUp(a);
            case "guest" -> model.guest(a, b);
            case "memory" -> model.memory(a, b);
            case "output" -> model.output(a, b);
            case "block" -> model.block(a);
            default -> throw new IllegalArgumentException(name);
        };
    }
}
