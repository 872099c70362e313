/** A MicroEight whose calls are counted: what it answers after its 512th call is not promised. */
final class Machine {
    static final int PC = 0;
    static final int AC = 1;
    static final int LINK = 2;
    static final int MQ = 3;
    static final int MA = 4;
    static final int MB = 5;
    static final int IR = 6;
    static final int STEP = 7;
    static final int CONDITIONS = 8;
    static final int BUFFER = 9;
    static final int COUNT = 10;

    static final int ION = 1;
    static final int DELAY = 2;
    static final int HALTED = 4;
    static final int KEYBOARD = 8;
    static final int PRINTER = 16;

    private static final int MOST_CALLS = 512;

    private final MicroEight x;
    private int calls = 0;

    Machine(int cap) {
        x = new MicroEight(cap);
    }

    /** A machine with microcode whose AC, LINK and MQ are these; it is HALTED behind the program that set them. */
    static Machine with(int ac, int link, int mq) {
        return with(10, ac, link, mq);
    }

    static Machine with(int cap, int ac, int link, int mq) {
        Machine m = new Machine(cap);
        m.init();
        m.words(07600, 07300, 01210, 07421, 01211, link == 1 ? 07020 : 07000);
        m.words(07605, 07402);
        m.words(07610, mq, ac);
        m.start(07600);
        Check.due("setting up: run(10)", m.run(10), 6);
        Check.due("setting up: AC", m.look(AC), ac);
        Check.due("setting up: LINK", m.look(LINK), link);
        Check.due("setting up: MQ", m.look(MQ), mq);
        return m;
    }

    /** A machine with microcode and nothing else but these words, about to run from the address. */
    static Machine at(int address, int... words) {
        Machine m = new Machine(10);
        m.init();
        m.words(address, words);
        m.start(address);
        return m;
    }

    /** At most five words from the address on, by one call of load. */
    void words(int address, int... words) {
        long all = 0;
        for (int word : words) {
            all = all << 12 | word;
        }
        Check.due("setting up: load", load(address, words.length, all), true);
    }

    int calls() {
        return calls;
    }

    private MicroEight counted() {
        calls++;
        if (calls > MOST_CALLS) {
            throw new IllegalStateException("the test makes more calls than the document promises");
        }
        return x;
    }

    void init() {
        counted().init();
    }

    boolean deposit(int address, int word) {
        return counted().deposit(address, word);
    }

    int examine(int address) {
        return counted().examine(address);
    }

    boolean load(int address, int n, long words) {
        return counted().load(address, n, words);
    }

    boolean start(int pc) {
        return counted().start(pc);
    }

    void switches(int v) {
        counted().switches(v);
    }

    void key(int c) {
        counted().key(c);
    }

    int microStep() {
        return counted().microStep();
    }

    int step() {
        return counted().step();
    }

    int run(int n) {
        return counted().run(n);
    }

    int look(int which) {
        return counted().look(which);
    }

    int printed(int i) {
        return counted().printed(i);
    }
}
