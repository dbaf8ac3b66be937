import java.util.Arrays;

/**
 * A guest on one of two hosts, and its move from one to the other while it runs.
 * The document's promises say what each public method answers and does.
 */
public final class MovingGuest {
    public static final int BAD = -1;
    public static final int NO = -2;
    public static final int FULL = -3;

    private static final int HOSTS = 2;
    private static final int WORDS = 64;
    private static final int PAGES = 8;
    private static final int PAGE_WORDS = 8;
    private static final int REGISTERS = 4;
    private static final int INPUT_WORDS = 8;
    private static final int OUTPUT_WORDS = 40;
    private static final int BLOCKS = 8;
    private static final int PIECES = 8;

    private static final int TIMER_REGISTER = 3;
    private static final int TIMER_COUNTER = 56;

    private static final int MOST_INSTRUCTIONS = 100;

    private static final int FEWEST_STEPS = 8;
    private static final int MOST_STEPS = 40;
    private static final int FEW_PAGES = 2;

    private static final int PAGE = 1;
    private static final int STATE = 2;
    private static final int SEEN = 3;
    private static final int TAKEN = 4;

    private static final int SENT_PAGE = 1;
    private static final int SENT_STATE = 2;
    private static final int DUE_AGAIN = 3;
    private static final int STOPPED = 4;

    private static final int[] NO_WORDS = {};

    private final int[] imageWords = new int[WORDS];
    private final int[] blocks = new int[BLOCKS];
    private final Host[] hosts = new Host[HOSTS];
    private final Move course = new Move();
    private final Link link = new Link();
    private int owner = NO;
    private int number = 0;

    public MovingGuest() {
        for (int host = 0; host < HOSTS; host++) {
            hosts[host] = new Host();
        }
    }

    public boolean image(int i, int w) {
        if (!isBelow(i, WORDS)) {
            return false;
        }
        imageWords[i] = w;
        return true;
    }

    public int create(int host) {
        if (!isBelow(host, HOSTS)) {
            return BAD;
        }
        if (!hosts[host].up || holder() != NO || course.goesOn) {
            return NO;
        }
        hosts[host].machine.clear();
        System.arraycopy(imageWords, 0, hosts[host].machine.memory, 0, WORDS);
        hosts[host].holds = true;
        owner = host;
        number++;
        return number;
    }

    public int run(int host, int n) {
        if (!isBelow(host, HOSTS) || n < 1 || n > MOST_INSTRUCTIONS) {
            return BAD;
        }
        if (!runsGuest(host)) {
            return NO;
        }
        int retired = 0;
        while (retired < n && retireNext(hosts[host])) {
            retired++;
        }
        return retired;
    }

    public int input(int host, int w) {
        if (!isBelow(host, HOSTS)) {
            return BAD;
        }
        if (!runsGuest(host)) {
            return NO;
        }
        Machine machine = hosts[host].machine;
        if (machine.inputs == INPUT_WORDS) {
            return FULL;
        }
        machine.input[machine.inputs] = w;
        machine.inputs++;
        return machine.inputs;
    }

    public int disk(int host) {
        if (!isBelow(host, HOSTS)) {
            return BAD;
        }
        Host asking = hosts[host];
        if (!asking.up || !asking.hasOrder || holdsStopped(host)) {
            return NO;
        }
        asking.hasOrder = false;
        if (asking.orderNumber != number) {
            return 0;
        }
        blocks[asking.orderBlock] = asking.orderWord;
        if (asking.holds) {
            asking.machine.hasRequest = false;
        }
        return 1;
    }

    public int move() {
        if (course.goesOn || owner == NO || !runsGuest(owner) || !hosts[other(owner)].up) {
            return NO;
        }
        course.begin(owner);
        hosts[other(owner)].joinAsTarget();
        return course.number;
    }

    public int step() {
        if (!course.goesOn || !source().holds) {
            return NO;
        }
        if (course.mustStop()) {
            course.stopped = true;
        }
        course.steps++;
        int page = course.nextDue();
        if (page != NO) {
            sendPage(page);
            return SENT_PAGE;
        }
        if (course.unknownPages() > 0) {
            course.makeSentDue();
            return DUE_AGAIN;
        }
        if (!course.stopped) {
            course.stopped = true;
            return STOPPED;
        }
        link.add(new Piece(STATE, course.number, 0, 0, NO_WORDS));
        return SENT_STATE;
    }

    public int deliver(int k) {
        if (!isBelow(k, link.size)) {
            return BAD;
        }
        Piece piece = link.remove(k);
        arrive(piece);
        return piece.kind;
    }

    public int lose(int k) {
        if (!isBelow(k, link.size)) {
            return BAD;
        }
        return link.remove(k).kind;
    }

    public int twice(int k) {
        if (!isBelow(k, link.size)) {
            return BAD;
        }
        if (link.size == PIECES) {
            return FULL;
        }
        link.add(link.pieces[k]);
        return link.size;
    }

    public boolean abort() {
        if (!course.goesOn) {
            return false;
        }
        endMove();
        if (source().holds) {
            renewNumber(source());
        }
        return true;
    }

    public boolean crash(int host) {
        if (!isBelow(host, HOSTS) || !hosts[host].up) {
            return false;
        }
        hosts[host].fall();
        if (course.goesOn && !source().holds && !target().ready) {
            endMove();
        }
        return true;
    }

    public boolean back(int host) {
        if (!isBelow(host, HOSTS) || hosts[host].up) {
            return false;
        }
        hosts[host].up = true;
        return true;
    }

    public boolean takeOver() {
        if (!course.goesOn || source().holds || !target().ready) {
            return false;
        }
        handOver();
        return true;
    }

    public int holder() {
        for (int host = 0; host < HOSTS; host++) {
            if (hosts[host].holds) {
                return host;
            }
        }
        return NO;
    }

    public int told(int what) {
        switch (what) {
            case 0:
                return owner;
            case 1:
                return number;
            case 2:
                return course.goesOn ? course.number : 0;
            case 3:
                return course.goesOn ? course.source : NO;
            case 4:
                return course.goesOn && course.stopped ? 1 : 0;
            case 5:
                return course.goesOn ? course.unknownPages() : 0;
            case 6:
                return link.size;
            case 7:
                return course.goesOn && target().ready ? 1 : 0;
            case 8:
                return course.goesOn ? course.steps : 0;
            default:
                return BAD;
        }
    }

    public int piece(int k, int what) {
        if (!isBelow(k, link.size)) {
            return BAD;
        }
        Piece piece = link.pieces[k];
        switch (what) {
            case 0:
                return piece.kind;
            case 1:
                return piece.move;
            case 2:
                return piece.page;
            case 3:
                return piece.serial;
            default:
                return BAD;
        }
    }

    public boolean isUp(int host) {
        return isBelow(host, HOSTS) && hosts[host].up;
    }

    public int guest(int host, int what) {
        if (!isBelow(host, HOSTS) || !hosts[host].holds) {
            return 0;
        }
        Machine machine = hosts[host].machine;
        if (isBelow(what, REGISTERS)) {
            return machine.registers[what];
        }
        switch (what) {
            case 4:
                return machine.counter;
            case 5:
                return machine.timer;
            case 6:
                return machine.retired;
            case 7:
                return machine.inputs;
            case 8:
                return machine.outputs;
            case 9:
                return machine.hasRequest ? 1 : 0;
            default:
                return 0;
        }
    }

    public int memory(int host, int i) {
        if (!isBelow(host, HOSTS) || !isBelow(i, WORDS)) {
            return 0;
        }
        Host asked = hosts[host];
        return asked.holds || asked.takesPart ? asked.machine.memory[i] : 0;
    }

    public int output(int host, int i) {
        if (!isBelow(host, HOSTS) || !hosts[host].holds) {
            return 0;
        }
        Machine machine = hosts[host].machine;
        return isBelow(i, machine.outputs) ? machine.output[i] : 0;
    }

    public int block(int i) {
        return isBelow(i, BLOCKS) ? blocks[i] : 0;
    }

    private static boolean isBelow(int i, int bound) {
        return i >= 0 && i < bound;
    }

    private static int other(int host) {
        return 1 - host;
    }

    private Host source() {
        return hosts[course.source];
    }

    private Host target() {
        return hosts[other(course.source)];
    }

    private boolean holdsStopped(int host) {
        return hosts[host].holds && course.goesOn && course.stopped;
    }

    private boolean runsGuest(int host) {
        return hosts[host].up && hosts[host].holds && owner == host && !holdsStopped(host);
    }

    /** False, with nothing changed, when the guest halts or waits. */
    private boolean retireNext(Host host) {
        Machine machine = host.machine;
        int v = machine.memory[machine.counter];
        if (machine.haltsOrWaits(v & 15)) {
            return false;
        }
        // The counter goes on first, so that a jump can still set it.
        machine.counter = (machine.counter + 1) % WORDS;
        perform(host, v);
        machine.retired++;
        machine.tick();
        return true;
    }

    /** The instructions that reach out of the machine are done here, all others by the machine. */
    private void perform(Host host, int v) {
        Machine machine = host.machine;
        int a = v >> 4 & 3;
        int block = v >> 8 & 7;
        switch (v & 15) {
            case 6:
                storeWord(machine, machine.address(v), machine.registers[a]);
                break;
            case 11:
                machine.request(block, machine.registers[a]);
                host.order(number);
                break;
            case 12:
                machine.registers[a] = blocks[block];
                break;
            default:
                machine.compute(v);
                break;
        }
    }

    private void storeWord(Machine machine, int address, int word) {
        machine.memory[address] = word;
        course.markChanged(address / PAGE_WORDS);
    }

    private void sendPage(int page) {
        course.markSent(page);
        int from = page * PAGE_WORDS;
        int[] words = Arrays.copyOfRange(source().machine.memory, from, from + PAGE_WORDS);
        link.add(new Piece(PAGE, course.number, page, course.serial, words));
    }

    private void arrive(Piece piece) {
        if (!course.goesOn || piece.move != course.number) {
            return;
        }
        switch (piece.kind) {
            case PAGE:
                pageArrives(piece);
                break;
            case STATE:
                stateArrives(piece);
                break;
            case SEEN:
                if (source().holds) {
                    course.markSeen(piece.page, piece.serial);
                }
                break;
            case TAKEN:
                if (source().holds && target().ready) {
                    handOver();
                }
                break;
            default:
                break;
        }
    }

    private void pageArrives(Piece piece) {
        Host target = target();
        if (!target.takesPart) {
            return;
        }
        if (piece.serial > target.serials[piece.page]) {
            System.arraycopy(piece.words, 0, target.machine.memory, piece.page * PAGE_WORDS, PAGE_WORDS);
            target.serials[piece.page] = piece.serial;
        }
        link.add(new Piece(SEEN, piece.move, piece.page, piece.serial, NO_WORDS));
    }

    private void stateArrives(Piece piece) {
        Host target = target();
        if (!target.takesPart) {
            return;
        }
        if (!target.ready) {
            // The piece needs no copy of its own: a stopped guest stays as it is until the move
            // ends, and the source still holds it, or the move of a target not ready had ended.
            target.machine.takeState(source().machine);
            target.ready = true;
        }
        link.add(new Piece(TAKEN, piece.move, 0, 0, NO_WORDS));
    }

    private void handOver() {
        Host target = target();
        source().holds = false;
        target.holds = true;
        owner = other(course.source);
        endMove();
        renewNumber(target);
    }

    private void endMove() {
        course.goesOn = false;
        target().leaveMove();
    }

    /** Orders under the old number are void from here on, so an open request is ordered anew. */
    private void renewNumber(Host host) {
        number++;
        if (host.machine.hasRequest) {
            host.order(number);
        }
    }

    /** A guest's machine; as a target's, it is what has arrived so far. */
    private static final class Machine {
        final int[] memory = new int[WORDS];
        final int[] registers = new int[REGISTERS];
        final int[] input = new int[INPUT_WORDS];
        final int[] output = new int[OUTPUT_WORDS];
        int counter = 0;
        int timer = 0;
        int inputs = 0;
        int outputs = 0;
        int retired = 0;
        boolean hasRequest = false;
        int requestBlock = 0;
        int requestWord = 0;

        void clear() {
            Arrays.fill(memory, 0);
            Arrays.fill(registers, 0);
            counter = 0;
            timer = 0;
            inputs = 0;
            outputs = 0;
            retired = 0;
            hasRequest = false;
        }

        /** All but the memory. */
        void takeState(Machine from) {
            System.arraycopy(from.registers, 0, registers, 0, REGISTERS);
            System.arraycopy(from.input, 0, input, 0, INPUT_WORDS);
            System.arraycopy(from.output, 0, output, 0, OUTPUT_WORDS);
            counter = from.counter;
            timer = from.timer;
            inputs = from.inputs;
            outputs = from.outputs;
            retired = from.retired;
            hasRequest = from.hasRequest;
            requestBlock = from.requestBlock;
            requestWord = from.requestWord;
        }

        boolean haltsOrWaits(int op) {
            boolean halts = op == 0 || op == 14 || op == 15;
            boolean waits = hasRequest && (op == 11 || op == 12);
            return halts || waits;
        }

        int address(int v) {
            return (registers[v >> 6 & 3] + (v >> 8 & 63)) & 63;
        }

        void request(int block, int word) {
            hasRequest = true;
            requestBlock = block;
            requestWord = word;
        }

        void compute(int v) {
            int a = v >> 4 & 3;
            int b = v >> 6 & 3;
            int k = v >> 8 & 63;
            switch (v & 15) {
                case 1:
                    registers[a] = v >> 16;
                    break;
                case 2:
                    registers[a] += registers[b];
                    break;
                case 3:
                    registers[a] -= registers[b];
                    break;
                case 4:
                    registers[a] *= registers[b];
                    break;
                case 5:
                    registers[a] = memory[address(v)];
                    break;
                case 7:
                    counter = k;
                    break;
                case 8:
                    counter = registers[a] == 0 ? k : counter;
                    break;
                case 9:
                    write(registers[a]);
                    break;
                case 10:
                    registers[a] = readOldest();
                    break;
                case 13:
                    timer = (registers[a] & 255) + 1;
                    break;
                default:
                    break;
            }
        }

        private void write(int word) {
            if (outputs < OUTPUT_WORDS) {
                output[outputs] = word;
                outputs++;
            }
        }

        private int readOldest() {
            if (inputs == 0) {
                return -1;
            }
            int word = input[0];
            inputs--;
            System.arraycopy(input, 1, input, 0, inputs);
            return word;
        }

        void tick() {
            if (timer == 0) {
                return;
            }
            timer--;
            if (timer == 0) {
                registers[TIMER_REGISTER] = counter;
                counter = TIMER_COUNTER;
            }
        }
    }

    private static final class Host {
        final Machine machine = new Machine();
        final int[] serials = new int[PAGES];
        boolean up = true;
        boolean holds = false;
        boolean takesPart = false;
        boolean ready = false;
        boolean hasOrder = false;
        int orderBlock = 0;
        int orderWord = 0;
        int orderNumber = 0;

        void order(int witnessNumber) {
            hasOrder = true;
            orderBlock = machine.requestBlock;
            orderWord = machine.requestWord;
            orderNumber = witnessNumber;
        }

        void joinAsTarget() {
            machine.clear();
            Arrays.fill(serials, 0);
            takesPart = true;
        }

        void leaveMove() {
            takesPart = false;
            ready = false;
        }

        void fall() {
            up = false;
            holds = false;
            hasOrder = false;
            leaveMove();
        }
    }

    /** The move that goes on, or the latest one. */
    private static final class Move {
        static final int DUE = 0;
        static final int SENT = 1;
        static final int KNOWN = 2;

        final int[] standing = new int[PAGES];
        final int[] serials = new int[PAGES];
        boolean goesOn = false;
        boolean stopped = false;
        int number = 0;
        int source = 0;
        int steps = 0;
        int serial = 0;
        int firstPage = 0;

        void begin(int from) {
            Arrays.fill(standing, DUE);
            goesOn = true;
            stopped = false;
            number++;
            source = from;
            steps = 0;
            serial = 0;
            firstPage = 0;
        }

        boolean mustStop() {
            return steps >= MOST_STEPS || steps >= FEWEST_STEPS && unknownPages() <= FEW_PAGES;
        }

        int unknownPages() {
            int unknown = 0;
            for (int page = 0; page < PAGES; page++) {
                if (standing[page] != KNOWN) {
                    unknown++;
                }
            }
            return unknown;
        }

        /** NO when no page is due. */
        int nextDue() {
            for (int i = 0; i < PAGES; i++) {
                int page = (firstPage + i) % PAGES;
                if (standing[page] == DUE) {
                    return page;
                }
            }
            return NO;
        }

        /** Without effect while no move goes on: a move that begins has all pages due. */
        void markChanged(int page) {
            standing[page] = DUE;
        }

        void markSent(int page) {
            serial++;
            standing[page] = SENT;
            serials[page] = serial;
            firstPage = (page + 1) % PAGES;
        }

        void makeSentDue() {
            for (int page = 0; page < PAGES; page++) {
                if (standing[page] == SENT) {
                    standing[page] = DUE;
                }
            }
        }

        void markSeen(int page, int seenSerial) {
            if (standing[page] == SENT && serials[page] == seenSerial) {
                standing[page] = KNOWN;
            }
        }
    }

    private static final class Piece {
        final int kind;
        final int move;
        final int page;
        final int serial;
        final int[] words;

        Piece(int kind, int move, int page, int serial, int[] words) {
            this.kind = kind;
            this.move = move;
            this.page = page;
            this.serial = serial;
            this.words = words;
        }
    }

    /** Pieces never change, so one that comes twice may stand here twice. */
    private static final class Link {
        final Piece[] pieces = new Piece[PIECES];
        int size = 0;

        void add(Piece piece) {
            if (size < PIECES) {
                pieces[size] = piece;
                size++;
            }
        }

        Piece remove(int k) {
            Piece piece = pieces[k];
            size--;
            for (int i = k; i < size; i++) {
                pieces[i] = pieces[i + 1];
            }
            return piece;
        }
    }
}
