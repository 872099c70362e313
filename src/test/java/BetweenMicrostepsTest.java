/** Calls made in the middle of an instruction: each microstep uses what is there when it is made. */
public final class BetweenMicrostepsTest {
    private static final int RUNS = 800;
    private static final int PC = Machine.PC;
    private static final int AC = Machine.AC;
    private static final int MA = Machine.MA;
    private static final int MB = Machine.MB;
    private static final int IR = Machine.IR;
    private static final int BUFFER = Machine.BUFFER;
    private static final int CONDITIONS = Machine.CONDITIONS;
    private static final int KEYBOARD = Machine.KEYBOARD;

    private long seed;
    private final String name;
    private final Machine machine;
    private final Microcode due;

    private BetweenMicrostepsTest(int number) {
        seed = number * 0x9E3779B97F4A7C15L + 7;
        name = "run " + number;
        int cap = below(6) - 1;
        machine = new Machine(cap);
        due = new Microcode(cap);
    }

    public static void main(String[] args) {
        Check.sentence("1 MB = the core's word at MA, when it is made", BetweenMicrostepsTest::depositBeforeFetch);
        Check.sentence("3 MB = the core's word at MA, when it is made", BetweenMicrostepsTest::depositBeforePointer);
        Check.sentence("4 MB = MB + 1, it goes into the core at MA, not the core's word + 1", BetweenMicrostepsTest::depositBeforeAdvance);
        Check.sentence("8, 9, 10 MB from the core's word at MA, when it is made", BetweenMicrostepsTest::depositBeforeOperand);
        Check.sentence("16, 17, 18 use MB, not the core", BetweenMicrostepsTest::depositBehindOperand);
        Check.sentence("28 AC = AC or SWITCH, when it is made", BetweenMicrostepsTest::switchesBeforeStep28);
        Check.sentence("34 the keyboard's FLAG, when it is made", BetweenMicrostepsTest::keyBeforeStep34);
        Check.sentence("35 AC = AC or BUFFER, when it is made", BetweenMicrostepsTest::keyBeforeStep35);
        Check.sentence("0 a FLAG is looked at by step 0 alone", BetweenMicrostepsTest::keyInTheMiddle);
        Check.sentence("40 and 41 are made whole, with a key between", BetweenMicrostepsTest::keyInAnInterrupt);
        Check.sentence("41 MB goes into the core at MA, over a deposit", BetweenMicrostepsTest::depositInAnInterrupt);
        Check.sentence("init: the step number becomes as at first, from every step", BetweenMicrostepsTest::initFromEveryStep);
        for (int number = 0; number < RUNS; number++) {
            new BetweenMicrostepsTest(number).calls();
        }
        Check.finish();
    }

    private static void depositBeforeFetch() {
        Machine m = Machine.at(0300, 07001);
        new Trace("step 0", m).to(1, PC, 0301, MA, 0300);
        m.deposit(0300, 06032);
        new Trace("step 1", m).to(32, MB, 06032, IR, 06032);
        m.deposit(0300, 07001);
        new Trace("IR stays", m).to(34).to(0);
    }

    private static void depositBeforePointer() {
        Machine m = Machine.with(0, 0, 0);
        Trace t = Trace.fetched("JMP by a pointer", m, 05450, 2).to(3, MA, 050);
        m.deposit(050, 01234);
        t.to(5, MB, 01234);
        m.deposit(050, 04321);
        t.to(13, MA, 01234).to(0, PC, 01234).core(050, 04321);
    }

    private static void depositBeforeAdvance() {
        Machine m = Machine.with(0, 0, 0);
        m.deposit(013, 01000);
        Trace t = Trace.fetched("JMP by a pointer", m, 05413, 2).to(3, MA, 013).to(4, MB, 01000);
        m.deposit(013, 05000);
        t.to(5, MB, 01001).core(013, 01001).to(13, MA, 01001).to(0, PC, 01001);
    }

    private static void depositBeforeOperand() {
        for (int number = 0; number <= 2; number++) {
            Machine m = Machine.with(07777, 0, 0);
            m.deposit(050, 01111);
            Trace t = Trace.fetched("number " + number, m, number * 01000 + 050, 2).to(8 + number, MA, 050);
            m.deposit(050, 02222);
            t.to(16 + number, MB, number == 2 ? 02223 : 02222);
        }
    }

    private static void depositBehindOperand() {
        int[] acThen = {01111, 01112, 1};
        for (int number = 0; number <= 2; number++) {
            Machine m = Machine.with(number == 0 ? 07777 : 1, 0, 0);
            m.deposit(050, 01111);
            int mb = number == 2 ? 01112 : 01111;
            Trace t = Trace.fetched("number " + number, m, number * 01000 + 050, 2).to(8 + number, MA, 050)
                .to(16 + number, MB, mb);
            m.deposit(050, 07777);
            t.to(0, AC, acThen[number]).core(050, number == 2 ? 01112 : 07777);
        }
    }

    private static void switchesBeforeStep28() {
        Machine m = Machine.with(0, 0, 0);
        m.switches(07777);
        Trace t = Trace.fetched("7604", m, 07604, 20).to(26).to(27).to(28);
        m.switches(01234);
        t.to(0, AC, 01234);
        m.switches(04321);
        t.same("switches behind it");
    }

    private static void keyBeforeStep34() {
        Machine m = Machine.with(0, 0, 0);
        Trace t = Trace.fetched("6031", m, 06031, 32).to(34);
        m.key(5);
        t.expect(BUFFER, 5, CONDITIONS, KEYBOARD).to(0, PC, 0402);
    }

    private static void keyBeforeStep35() {
        Machine m = Machine.with(07400, 0, 0);
        m.key(0377);
        Trace t = Trace.fetched("6036", m, 06036, 32).to(34).to(35, AC, 0, CONDITIONS, 0);
        m.key(0123);
        t.expect(BUFFER, 0123, CONDITIONS, KEYBOARD).to(0, AC, 0123);
    }

    private static Machine withInterrupts() {
        Machine m = Machine.at(0200, 06001, 07000);
        m.step();
        m.step();
        m.start(0300);
        return m;
    }

    private static void keyInTheMiddle() {
        Machine m = withInterrupts();
        m.deposit(0300, 07001);
        Trace t = new Trace("7001", m).to(1, PC, 0301, MA, 0300);
        m.key(5);
        t.expect(BUFFER, 5, CONDITIONS, Machine.ION + KEYBOARD).to(20, MB, 07001, IR, 07001)
            .to(21).to(22).to(23).to(0, AC, 1).to(40);
    }

    private static void keyInAnInterrupt() {
        Machine m = withInterrupts();
        m.key(5);
        Trace t = new Trace("interrupt", m).to(40);
        m.key(6);
        t.expect(BUFFER, 6).to(41, MB, 0300, MA, 0, CONDITIONS, KEYBOARD);
        m.key(7);
        t.expect(BUFFER, 7).to(0, PC, 1).to(1, PC, 2, MA, 1);
    }

    private static void depositInAnInterrupt() {
        Machine m = withInterrupts();
        m.key(5);
        Trace t = new Trace("interrupt", m).to(40).to(41, MB, 0300, MA, 0, CONDITIONS, KEYBOARD);
        m.words(0, 01111, 02222);
        t.to(0, PC, 1).core(0, 0300).core(1, 02222);
    }

    private static void initFromEveryStep() {
        for (int instruction : new int[] {0010, 01410, 02010, 03010, 04010, 05010, 07016, 07406, 07421, 06001, 06034, 06044}) {
            for (int before = 1; before <= 8; before++) {
                Machine m = Machine.at(0200, instruction);
                for (int i = 0; i < before; i++) {
                    m.microStep();
                }
                m.init();
                for (int which = 0; which <= 10; which++) {
                    Check.due("init behind " + before + " microsteps: look(" + which + ")", m.look(which), 0);
                }
                Check.due("init: the core", m.examine(0200), instruction);
                new Trace("init", m).to(1, PC, 1);
            }
        }
    }

    private int below(int n) {
        seed ^= seed << 13;
        seed ^= seed >>> 7;
        seed ^= seed << 17;
        return (int) Long.remainderUnsigned(seed, n);
    }

    /** Half of the words are of input, output and operate, so that each of their steps comes often. */
    private int word() {
        switch (below(6)) {
            case 0: return 07000 + below(512);
            case 1: return 06030 + below(16);
            case 2: return 06000 + below(4);
            default: return below(4096);
        }
    }

    private void calls() {
        if (below(20) != 0) {
            machine.init();
            due.init();
        }
        int first = below(4096);
        for (int i = 0; i < 12; i++) {
            load((first + 5 * i) % 4096, 5);
        }
        load(0, 5);
        load(010, 5);
        start(first);
        while (machine.calls() < 490) {
            Check.due(name + ": microStep", machine.microStep(), due.microStep());
            if (below(3) == 0) {
                call();
            }
            look(below(11));
        }
        for (int which = -1; which <= 11; which++) {
            look(which);
        }
    }

    private void look(int which) {
        Check.due(name + " at step " + due.number + ": look(" + which + ")", machine.look(which), due.look(which));
    }

    private void call() {
        switch (below(14)) {
            case 0, 1 -> load(due.ma, 1);
            case 2 -> load((due.ma + 4094) % 4096, 1 + below(5));
            case 3 -> load(due.pc, 1 + below(5));
            case 4 -> Check.due(name + ": the core at MA", machine.examine(due.ma), due.core[due.ma]);
            case 5 -> key(below(1000) - 500);
            case 6 -> switches(below(100000) - 50000);
            case 7 -> start(below(4) == 0 ? below(4096) : due.pc);
            case 8 -> Check.due(name + ": step", machine.step(), due.step());
            case 9 -> run(below(4));
            case 10 -> run(below(2) == 0 ? -1 - below(9) : 501 + below(9));
            case 11 -> paper(below(8) - 2);
            case 12 -> goOn();
            default -> Check.due(name + ": examine", machine.examine(010), due.core[010]);
        }
    }

    private void load(int address, int n) {
        long words = 0;
        for (int i = 0; i < n; i++) {
            int word = word();
            words = words << 12 | word;
            due.core[(address + i) % 4096] = word;
        }
        Check.due(name + ": load", machine.load(address, n, words), true);
    }

    private void key(int c) {
        machine.key(c);
        due.buffer = c & 255;
        due.keyboardFlag = true;
    }

    private void switches(int v) {
        machine.switches(v);
        due.switchWord = v & 07777;
    }

    private void start(int pc) {
        boolean may = due.there && due.number == 0;
        Check.due(name + " at step " + due.number + ": start", machine.start(pc), may);
        if (may) {
            due.pc = pc;
            due.halted = false;
        }
    }

    private void run(int n) {
        Check.due(name + ": run(" + n + ")", machine.run(n), n < 0 || n > 500 ? -1 : due.run(n));
    }

    private void paper(int i) {
        int want = i == -1 ? due.count : i >= 0 && i < due.count ? due.printed[i] : -1;
        Check.due(name + ": printed(" + i + ")", machine.printed(i), want);
    }

    /** So that a run does not stay HALTED or full for long. */
    private void goOn() {
        if (due.number == 37 || below(20) == 0) {
            machine.init();
            due.init();
        }
        start(below(4096));
    }
}
