/** What can be read of an object, as one text; few words of each page, as an object is good for 512 calls. */
final class Readings {
    private static final int[] MEMORY = {0, 7, 8, 40, 55, 56, 63};
    private static final int[] OUTPUT = {0, 1, 39};

    private Readings() {
    }

    static String of(MovingGuest x) {
        StringBuilder text = new StringBuilder("holder " + x.holder());
        for (int what = 0; what < 9; what++) {
            text.append(what == 0 ? " told " : ",").append(x.told(what));
        }
        for (int k = 0; k < x.told(6); k++) {
            for (int what = 0; what < 4; what++) {
                text.append(what == 0 ? " piece " : ",").append(x.piece(k, what));
            }
        }
        for (int i = 0; i < 8; i++) {
            text.append(i == 0 ? " blocks " : ",").append(x.block(i));
        }
        for (int host = 0; host < 2; host++) {
            addHost(text, x, host);
        }
        return text.toString();
    }

    private static void addHost(StringBuilder text, MovingGuest x, int host) {
        text.append(" host ").append(host).append(x.isUp(host) ? " up" : " not up");
        for (int what = 0; what < 10; what++) {
            text.append(what == 0 ? " guest " : ",").append(x.guest(host, what));
        }
        for (int i : MEMORY) {
            text.append(i == 0 ? " memory " : ",").append(x.memory(host, i));
        }
        for (int i : OUTPUT) {
            text.append(i == 0 ? " output " : ",").append(x.output(host, i));
        }
    }
}
