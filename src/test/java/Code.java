/** The guest's instructions as words. */
final class Code {
    static final int HALT = 0;

    private Code() {
    }

    static int word(int op, int a, int b, int k, int c) {
        return op | a << 4 | b << 6 | k << 8 | c << 16;
    }

    static int set(int a, int c) {
        return word(1, a, 0, 0, c);
    }

    static int add(int a, int b) {
        return word(2, a, b, 0, 0);
    }

    static int subtract(int a, int b) {
        return word(3, a, b, 0, 0);
    }

    static int multiply(int a, int b) {
        return word(4, a, b, 0, 0);
    }

    static int load(int a, int b, int k) {
        return word(5, a, b, k, 0);
    }

    static int store(int a, int b, int k) {
        return word(6, a, b, k, 0);
    }

    static int jump(int k) {
        return word(7, 0, 0, k, 0);
    }

    static int jumpIfZero(int a, int k) {
        return word(8, a, 0, k, 0);
    }

    static int write(int a) {
        return word(9, a, 0, 0, 0);
    }

    static int read(int a) {
        return word(10, a, 0, 0, 0);
    }

    static int put(int a, int k) {
        return word(11, a, 0, k, 0);
    }

    static int get(int a, int k) {
        return word(12, a, 0, k, 0);
    }

    static int timer(int a) {
        return word(13, a, 0, 0, 0);
    }
}
