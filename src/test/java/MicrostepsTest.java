/** Every microstep of the document's Terms, each way it can go on, followed one at a time. */
public final class MicrostepsTest {
    private static final int PC = Machine.PC;
    private static final int AC = Machine.AC;
    private static final int LINK = Machine.LINK;
    private static final int MQ = Machine.MQ;
    private static final int MA = Machine.MA;
    private static final int MB = Machine.MB;
    private static final int IR = Machine.IR;
    private static final int CONDITIONS = Machine.CONDITIONS;
    private static final int ION = Machine.ION;
    private static final int DELAY = Machine.DELAY;
    private static final int HALTED = Machine.HALTED;
    private static final int KEYBOARD = Machine.KEYBOARD;
    private static final int PRINTER = Machine.PRINTER;

    public static void main(String[] args) {
        pcWraps();
        addressing();
        pointers();
        pointerThatChangesItself();
        and();
        tad();
        isz();
        dca();
        jms();
        jmp();
        operateClearAndComplement();
        operateIncrement();
        operateRotate();
        operateTest();
        operateTestEveryCase();
        operateSwitchesAndHalt();
        operateMq();
        devices();
        interruptDevice();
        keyboardDevice();
        printerDevice();
        outputFull();
        interrupts();
        interruptOfPrinter();
        delay();
        haltedBeforeInterrupt();
        Check.finish();
    }

    private static void pcWraps() {
        Machine m = Machine.at(07777, 07000);
        new Trace("step 0 at 07777", m).to(1, PC, 0, MA, 07777).to(20, MB, 07000, IR, 07000);
        Machine skip = Machine.at(07776, 07410);
        new Trace("a skip at 07776", skip).to(1, PC, 07777, MA, 07776).to(20, MB, 07410, IR, 07410).to(26).to(27, PC, 0).to(0);
    }

    private static void addressing() {
        Trace.fetched("page 0", Machine.with(1, 0, 0), 05177, 2).to(13, MA, 0177).to(0, PC, 0177);
        Trace.fetched("this page", Machine.with(1, 0, 0), 05377, 2).to(13, MA, 0577).to(0, PC, 0577);
        Machine last = Machine.at(07777, 05200);
        new Trace("the last page", last).to(1, PC, 0, MA, 07777).to(2, MB, 05200, IR, 05200).to(13, MA, 07600).to(0, PC, 07600);
        int[] firsts = {00000, 01000, 02000, 03000, 04000, 05000};
        for (int i = 0; i < firsts.length; i++) {
            Trace.fetched("number " + i, Machine.with(0, 0, 0), firsts[i] + 020, 2).to(8 + i, MA, 020);
        }
        Trace.fetched("the last before input and output", Machine.with(0, 0, 0), 05777, 2).to(3, MA, 0577);
        Trace.fetched("the first of input and output", Machine.with(0, 0, 0), 06000, 32);
        Trace.fetched("the last of input and output", Machine.with(0, 0, 0), 06777, 32);
        Trace.fetched("the first of operate", Machine.with(0, 0, 0), 07000, 20);
        Trace.fetched("the last of operate", Machine.with(0, 0, 0), 07777, 20);
    }

    private static void pointers() {
        for (int address = 06; address <= 021; address++) {
            Machine m = Machine.with(0, 0, 0);
            m.deposit(address, 01234);
            Trace t = Trace.fetched("pointer at 0" + Integer.toOctalString(address), m, 05400 + address, 2).to(3, MA, address);
            if (address >= 010 && address <= 017) {
                t.to(4, MB, 01234).to(5, MB, 01235).core(address, 01235).to(13, MA, 01235).to(0, PC, 01235);
            } else {
                t.to(5, MB, 01234).core(address, 01234).to(13, MA, 01234).to(0, PC, 01234);
            }
        }
        Machine page = Machine.with(0, 0, 0);
        page.deposit(0410, 03333);
        Trace.fetched("010 on another page", page, 05610, 2).to(3, MA, 0410).to(5, MB, 03333).to(13, MA, 03333).to(0, PC, 03333);
        Machine wrap = Machine.with(0123, 0, 0);
        wrap.deposit(017, 07777);
        Trace.fetched("a pointer that comes to 0", wrap, 03417, 2).to(3, MA, 017).to(4, MB, 07777).to(5, MB, 0).core(017, 0)
            .to(11, MA, 0).to(19, MB, 0123).to(0, AC, 0).core(0, 0123);
        Machine two = Machine.with(0, 0, 0);
        two.words(0500, 01400 + 011, 01400 + 011, 07402);
        two.words(011, 0600);
        two.words(0601, 01, 02);
        two.start(0500);
        Check.due("a pointer twice: run(5)", two.run(5), 3);
        Check.due("a pointer twice: AC", two.look(AC), 03);
        Check.due("a pointer twice: the core", two.examine(011), 0602);
    }

    private static void pointerThatChangesItself() {
        Machine m = Machine.with(0, 0, 0);
        m.deposit(012, 011);
        Trace.fetched("a pointer to itself", m, 02412, 2).to(3, MA, 012).to(4, MB, 011).to(5, MB, 012).to(10, MA, 012)
            .to(18, MB, 013).to(0).core(012, 013);
    }

    private static void and() {
        Machine m = Machine.with(07070, 1, 0);
        m.deposit(050, 05252);
        Trace.fetched("AND", m, 00050, 2).to(8, MA, 050).to(16, MB, 05252).to(0, AC, 05050).core(050, 05252);
        Machine pointed = Machine.with(07777, 0, 0);
        pointed.deposit(0450, 01000);
        pointed.deposit(01000, 04001);
        Trace.fetched("AND by a pointer", pointed, 00650, 2).to(3, MA, 0450).to(5, MB, 01000).to(8, MA, 01000)
            .to(16, MB, 04001).to(0, AC, 04001);
    }

    private static void tad() {
        int[][] rows = { // AC, LINK, the word, AC then, LINK then
            {1, 0, 2, 3, 0}, {1, 1, 2, 3, 1}, {07777, 0, 1, 0, 1}, {07777, 1, 1, 0, 0}, {07777, 0, 07777, 07776, 1},
            {07776, 0, 1, 07777, 0}, {04000, 1, 04000, 0, 0}, {0, 1, 0, 0, 1}, {0, 0, 07777, 07777, 0}
        };
        for (int[] row : rows) {
            Machine m = Machine.with(row[0], row[1], 0);
            m.deposit(050, row[2]);
            Trace.fetched("TAD", m, 01050, 2).to(9, MA, 050).to(17, MB, row[2]).to(0, AC, row[3], LINK, row[4]).core(050, row[2]);
        }
    }

    private static void isz() {
        Machine m = Machine.with(05, 1, 0);
        m.deposit(050, 07776);
        Trace.fetched("ISZ to 07777", m, 02050, 2).to(10, MA, 050).to(18, MB, 07777).core(050, 07776).to(0).core(050, 07777);
        Machine zero = Machine.with(05, 0, 0);
        zero.deposit(050, 07777);
        Trace.fetched("ISZ to 0", zero, 02050, 2).to(10, MA, 050).to(18, MB, 0).core(050, 07777).to(0, PC, 0402).core(050, 0);
        Machine one = Machine.with(05, 0, 0);
        Trace.fetched("ISZ to 1", one, 02050, 2).to(10, MA, 050).to(18, MB, 1).to(0).core(050, 1);
        Machine last = Machine.at(07776, 02200, 07000);
        last.deposit(07600, 07777);
        last.step();
        Check.due("ISZ at 07776 skips to 0: PC", last.look(PC), 0);
    }

    private static void dca() {
        Machine m = Machine.with(05432, 1, 0);
        m.deposit(050, 01111);
        Trace.fetched("DCA", m, 03050, 2).to(11, MA, 050).to(19, MB, 05432).core(050, 01111).to(0, AC, 0).core(050, 05432);
    }

    private static void jms() {
        Machine m = Machine.with(05432, 1, 0);
        Trace.fetched("JMS", m, 04050, 2).to(12, MA, 050).to(15, MB, 0401).core(050, 0).to(0, PC, 051).core(050, 0401);
        Machine last = Machine.with(0, 0, 0);
        last.deposit(060, 07777);
        Trace.fetched("JMS to 07777", last, 04460, 2).to(3, MA, 060).to(5, MB, 07777).to(12, MA, 07777).to(15, MB, 0401)
            .to(0, PC, 0).core(07777, 0401);
    }

    private static void jmp() {
        Machine m = Machine.with(05432, 1, 0);
        m.deposit(050, 01111);
        Trace.fetched("JMP", m, 05050, 2).to(13, MA, 050).to(0, PC, 050).core(050, 01111);
        Machine self = Machine.at(0, 05000);
        Check.due("JMP to itself: run(500)", self.run(500), 500);
        Check.due("JMP to itself: PC", self.look(PC), 0);
    }

    private static void operateClearAndComplement() {
        Trace.fetched("7000", Machine.with(05432, 1, 03), 07000, 20).to(21).to(22).to(23).to(0);
        Trace.fetched("7200", Machine.with(05432, 1, 03), 07200, 20).to(21).to(22, AC, 0).to(23).to(0);
        Trace.fetched("7100", Machine.with(05432, 1, 03), 07100, 20).to(21).to(22, LINK, 0).to(23).to(0);
        Trace.fetched("7300", Machine.with(05432, 1, 03), 07300, 20).to(21).to(22, AC, 0, LINK, 0).to(23).to(0);
        Trace.fetched("7040", Machine.with(05432, 1, 03), 07040, 20).to(21).to(22).to(23, AC, 02345).to(0);
        Trace.fetched("7020", Machine.with(05432, 1, 03), 07020, 20).to(21).to(22).to(23, LINK, 0).to(0);
        Trace.fetched("7020", Machine.with(05432, 0, 03), 07020, 20).to(21).to(22).to(23, LINK, 1).to(0);
        Trace.fetched("7060", Machine.with(0, 0, 03), 07060, 20).to(21).to(22).to(23, AC, 07777, LINK, 1).to(0);
        Trace.fetched("7360", Machine.with(0123, 1, 03), 07360, 20).to(21).to(22, AC, 0, LINK, 0).to(23, AC, 07777, LINK, 1).to(0);
    }

    private static void operateIncrement() {
        Trace.fetched("7001", Machine.with(05432, 1, 03), 07001, 20).to(21).to(22).to(23).to(0, AC, 05433);
        Trace.fetched("7001", Machine.with(07777, 1, 03), 07001, 20).to(21).to(22).to(23).to(0, AC, 0, LINK, 0);
        Trace.fetched("7001", Machine.with(07777, 0, 03), 07001, 20).to(21).to(22).to(23).to(0, AC, 0, LINK, 1);
        Trace.fetched("7001", Machine.with(07776, 0, 03), 07001, 20).to(21).to(22).to(23).to(0, AC, 07777);
        Trace.fetched("7041", Machine.with(01, 0, 03), 07041, 20).to(21).to(22).to(23, AC, 07776).to(0, AC, 07777);
        Trace.fetched("7041", Machine.with(0, 0, 03), 07041, 20).to(21).to(22).to(23, AC, 07777).to(0, AC, 0, LINK, 1);
        Trace.fetched("7201", Machine.with(0123, 0, 03), 07201, 20).to(21).to(22, AC, 0).to(23).to(0, AC, 1);
        Trace.fetched("7005", Machine.with(02000, 0, 03), 07005, 20).to(21).to(22).to(23).to(24, AC, 02001).to(0, AC, 04002);
    }

    private static void operateRotate() {
        Trace.fetched("7002", Machine.with(05432, 1, 0), 07002, 20).to(21).to(22).to(23).to(0);
        rotated(07010, 00001, 0, 00000, 1);
        rotated(07010, 00002, 1, 04001, 0);
        rotated(07010, 05433, 1, 06615, 1);
        rotated(07004, 04000, 0, 00000, 1);
        rotated(07004, 00001, 1, 00003, 0);
        rotated(07004, 05433, 0, 03066, 1);
        rotated(07014, 05433, 0, 05433, 0);
        rotated(07014, 05432, 1, 05432, 1);
        rotatedTwice(07012, 00003, 0, 00001, 1, 04000, 1);
        rotatedTwice(07012, 00001, 1, 04000, 1, 06000, 0);
        rotatedTwice(07006, 04000, 0, 00000, 1, 00001, 0);
        rotatedTwice(07006, 06000, 1, 04001, 1, 00003, 1);
        rotatedTwice(07016, 05433, 1, 05433, 1, 05433, 1);
    }

    private static Trace toRotation(Machine m, int instruction) {
        return Trace.fetched("0" + Integer.toOctalString(instruction), m, instruction, 20).to(21).to(22).to(23).to(24);
    }

    private static void rotated(int instruction, int ac, int link, int acThen, int linkThen) {
        toRotation(Machine.with(ac, link, 0), instruction).to(0, AC, acThen, LINK, linkThen);
    }

    private static void rotatedTwice(int instruction, int ac, int link, int ac1, int link1, int ac2, int link2) {
        toRotation(Machine.with(ac, link, 0), instruction).to(25, AC, ac1, LINK, link1).to(0, AC, ac2, LINK, link2);
    }

    private static void operateTest() {
        Trace.fetched("7400", Machine.with(0, 1, 0), 07400, 20).to(26).to(27).to(0);
        Trace.fetched("7410", Machine.with(0, 1, 0), 07410, 20).to(26).to(27, PC, 0402).to(0);
        Trace.fetched("7600", Machine.with(0123, 1, 0), 07600, 20).to(26).to(27).to(0, AC, 0);
        Trace.fetched("7640", Machine.with(0123, 1, 0), 07640, 20).to(26).to(27).to(0, AC, 0);
        Trace.fetched("7650", Machine.with(0123, 1, 0), 07650, 20).to(26).to(27, PC, 0402).to(0, AC, 0);
    }

    /** Each choice of the bits 0170 against values of AC round the edges of the test, with either LINK. */
    private static void operateTestEveryCase() {
        for (int bits = 0; bits < 0200; bits += 010) {
            for (int ac : new int[] {0, 1, 03777, 04000, 07777}) {
                for (int link = 0; link <= 1; link++) {
                    boolean minus = (bits & 0100) != 0 && ac >= 04000;
                    boolean zero = (bits & 040) != 0 && ac == 0;
                    boolean linked = (bits & 020) != 0 && link == 1;
                    boolean skips = (minus || zero || linked) ^ (bits & 010) != 0;
                    Machine m = Machine.with(ac, link, 0);
                    String name = "0" + Integer.toOctalString(07400 + bits) + " with AC " + ac + " and LINK " + link;
                    Trace.fetched(name, m, 07400 + bits, 20).to(26).to(27, PC, skips ? 0402 : 0401).to(0);
                }
            }
        }
    }

    private static void operateSwitchesAndHalt() {
        Machine or = Machine.with(01200, 0, 0);
        or.switches(00034);
        Trace.fetched("7404", or, 07404, 20).to(26).to(27).to(28).to(0, AC, 01234);
        Machine orMore = Machine.with(05252, 1, 0);
        orMore.switches(07070);
        Trace.fetched("7404 bit by bit", orMore, 07404, 20).to(26).to(27).to(28).to(0, AC, 07272);
        Machine load = Machine.with(01200, 0, 0);
        load.switches(00034);
        Trace.fetched("7604", load, 07604, 20).to(26).to(27).to(28, AC, 0).to(0, AC, 034);
        Machine halt = Machine.with(01200, 0, 0);
        halt.switches(00034);
        Trace.fetched("7402", halt, 07402, 20).to(26).to(27).to(28).to(0, CONDITIONS, HALTED).stays(2);
        Machine both = Machine.with(01200, 0, 0);
        both.switches(00034);
        Trace.fetched("7406", both, 07406, 20).to(26).to(27).to(28).to(0, AC, 01234, CONDITIONS, HALTED).stays(2);
    }

    private static void operateMq() {
        Trace.fetched("7401", Machine.with(01200, 1, 01034), 07401, 20).to(30).to(31).to(0);
        Trace.fetched("7421", Machine.with(01200, 1, 01034), 07421, 20).to(30).to(31).to(0, AC, 0, MQ, 01200);
        Trace.fetched("7501", Machine.with(01200, 1, 01034), 07501, 20).to(30).to(31).to(0, AC, 01234);
        Trace.fetched("7521", Machine.with(01200, 1, 01034), 07521, 20).to(30).to(31).to(0, AC, 01034, MQ, 01200);
        Trace.fetched("7601", Machine.with(01200, 1, 01034), 07601, 20).to(30).to(31, AC, 0).to(0);
        Trace.fetched("7621", Machine.with(01200, 1, 01034), 07621, 20).to(30).to(31, AC, 0).to(0, MQ, 0);
        Trace.fetched("7701", Machine.with(01200, 1, 01034), 07701, 20).to(30).to(31, AC, 0).to(0, AC, 01034);
        Trace.fetched("7721", Machine.with(01200, 1, 01034), 07721, 20).to(30).to(31, AC, 0).to(0, AC, 01034, MQ, 0);
        Trace.fetched("7457, whose other bits do nothing", Machine.with(01200, 1, 01034), 07457, 20).to(30).to(31).to(0);
    }

    private static void devices() {
        for (int device = 0; device < 0100; device++) {
            int next = device == 0 ? 33 : device == 3 ? 34 : device == 4 ? 36 : 0;
            Machine m = Machine.with(01234, 1, 0);
            m.key(65);
            Trace t = Trace.fetched("device " + device, m, 06000 + 8 * device + (next == 0 ? 7 : 0), 32).to(next);
            if (next != 0) {
                t.to(0);
            }
        }
    }

    private static void interruptDevice() {
        Trace.fetched("6000", Machine.with(0, 0, 0), 06000, 32).to(33).to(0);
        Trace.fetched("6001", Machine.with(0, 0, 0), 06001, 32).to(33).to(0, CONDITIONS, ION + DELAY);
        Trace.fetched("6002", Machine.with(0, 0, 0), 06002, 32).to(33).to(0);
        Trace.fetched("6003", Machine.with(0, 0, 0), 06003, 32).to(33).to(0, CONDITIONS, DELAY);
        Trace.fetched("6004", Machine.with(0, 0, 0), 06004, 32).to(33).to(0);
        Machine off = Machine.at(0200, 06001, 06002);
        new Trace("6001 6002", off).to(1, PC, 0201, MA, 0200).to(32, MB, 06001, IR, 06001).to(33)
            .to(0, CONDITIONS, ION + DELAY).to(1, PC, 0202, MA, 0201, CONDITIONS, ION)
            .to(32, MB, 06002, IR, 06002).to(33).to(0, CONDITIONS, 0);
    }

    private static void keyboardDevice() {
        keyed(06030).to(0);
        keyed(06031).to(0, PC, 0402);
        keyed(06032).to(0, AC, 0, CONDITIONS, 0);
        keyed(06033).to(0, PC, 0402, AC, 0, CONDITIONS, 0);
        keyed(06034).to(35).to(0, AC, 01335);
        keyed(06035).to(35, PC, 0402).to(0, AC, 01335);
        keyed(06036).to(35, AC, 0, CONDITIONS, 0).to(0, AC, 0311);
        keyed(06037).to(35, PC, 0402, AC, 0, CONDITIONS, 0).to(0, AC, 0311);
        Trace.fetched("6031 without FLAG", Machine.with(01234, 1, 0), 06031, 32).to(34).to(0);
        Trace.fetched("6036 without FLAG", Machine.with(01234, 1, 0), 06036, 32).to(34).to(35, AC, 0).to(0);
        Machine both = Machine.with(0, 0, 0);
        both.words(0200, 06044, 07402);
        both.start(0200);
        both.run(2);
        Trace.fetched("6031 with the printer's FLAG alone", both, 06031, 32).to(34).to(0);
        both.key(1);
        Trace.fetched("6032 leaves the printer's FLAG", both, 06032, 32).to(34).to(0, CONDITIONS, PRINTER);
    }

    private static Trace keyed(int instruction) {
        Machine m = Machine.with(01234, 1, 0);
        m.key(0311);
        return Trace.fetched("0" + Integer.toOctalString(instruction), m, instruction, 32).to(34);
    }

    private static void printerDevice() {
        flagged(06040).to(0);
        flagged(06041).to(0, PC, 0402);
        flagged(06042).to(0, CONDITIONS, KEYBOARD);
        flagged(06043).to(0, PC, 0402, CONDITIONS, KEYBOARD);
        flagged(06044).to(37).to(0);
        flagged(06045).to(37, PC, 0402).to(0);
        flagged(06046).to(37, CONDITIONS, KEYBOARD).to(0, CONDITIONS, KEYBOARD + PRINTER);
        flagged(06047).to(37, PC, 0402, CONDITIONS, KEYBOARD).to(0, CONDITIONS, KEYBOARD + PRINTER);
        Machine m = Machine.with(07501, 1, 0);
        m.key(1);
        Trace.fetched("6041 with the keyboard's FLAG alone", m, 06041, 32).to(36).to(0);
        Trace.fetched("6044", m, 06044, 32).to(36).to(37).to(0, CONDITIONS, KEYBOARD + PRINTER);
        Check.due("6044: printed(-1)", m.printed(-1), 1);
        Check.due("6044: printed(0)", m.printed(0), 0101);
    }

    /** A machine with AC 01234 and both FLAGs, at step 36 of the instruction. */
    private static Trace flagged(int instruction) {
        Machine m = Machine.with(01234, 1, 0);
        m.words(0200, 06044, 07402);
        m.start(0200);
        m.run(2);
        m.key(0311);
        return Trace.fetched("0" + Integer.toOctalString(instruction), m, instruction, 32).to(36);
    }

    private static void outputFull() {
        Machine m = Machine.with(1, 0123, 1, 0);
        Trace.fetched("the last byte", m, 06044, 32).to(36).to(37).to(0, CONDITIONS, PRINTER);
        Trace.fetched("one byte too many", m, 06046, 32).to(36).to(37, CONDITIONS, 0).stays(4).stays(4);
        Check.due("output full: printed(-1)", m.printed(-1), 1);
        Check.due("output full: printed(0)", m.printed(0), 0123);
        Machine none = Machine.with(0, 0123, 1, 0);
        Trace.fetched("CAP 0", none, 06044, 32).to(36).to(37).stays(4);
        Check.due("CAP 0: printed(-1)", none.printed(-1), 0);
    }

    private static void interrupts() {
        Machine m = Machine.at(0200, 06001, 07000, 07000);
        m.deposit(0, 05555);
        m.key(1);
        m.step();
        m.step();
        new Trace("an interrupt", m).expect(CONDITIONS, ION + KEYBOARD).same("before")
            .to(40).to(41, MB, 0202, MA, 0, CONDITIONS, KEYBOARD).core(0, 05555).to(0, PC, 1).core(0, 0202)
            .to(1, PC, 2, MA, 1);
        Machine none = Machine.at(0200, 06001, 07000, 07000);
        none.step();
        none.step();
        new Trace("ION without a FLAG", none).to(1, PC, 0203, MA, 0202);
        none.key(5);
        Check.due("a key in the middle waits: step()", none.step(), 0);
        new Trace("a key in the middle", none).to(40);
        Machine off = Machine.at(0200, 07000);
        off.key(1);
        new Trace("a FLAG without ION", off).to(1, PC, 0201, MA, 0200);
    }

    private static void interruptOfPrinter() {
        Machine m = Machine.at(0200, 06044, 06001, 07000);
        m.run(3);
        new Trace("an interrupt by the printer", m).expect(CONDITIONS, ION + PRINTER).same("before")
            .to(40).to(41, MB, 0203, MA, 0, CONDITIONS, PRINTER).to(0, PC, 1).core(0, 0203);
    }

    private static void delay() {
        Machine m = Machine.at(0200, 06001, 06001, 05600);
        m.key(1);
        m.step();
        new Trace("DELAY anew", m).to(1, PC, 0202, MA, 0201, CONDITIONS, ION + KEYBOARD).to(32, MB, 06001).to(33)
            .to(0, CONDITIONS, ION + DELAY + KEYBOARD).to(1, PC, 0203, MA, 0202, CONDITIONS, ION + KEYBOARD);
        Check.due("the instruction behind ION is done: step()", m.step(), 0);
        Check.due("the instruction behind ION is done: PC", m.look(PC), 06001);
        new Trace("then the interrupt", m).to(40);
        Machine without = Machine.at(0200, 06003, 07000);
        without.key(1);
        without.step();
        new Trace("DELAY without ION", without).expect(CONDITIONS, DELAY + KEYBOARD).same("before")
            .to(1, PC, 0202, MA, 0201, CONDITIONS, KEYBOARD);
    }

    private static void haltedBeforeInterrupt() {
        Machine m = Machine.at(0200, 06001, 07402);
        m.key(1);
        m.run(2);
        new Trace("HALTED with ION and a FLAG", m).expect(CONDITIONS, ION + HALTED + KEYBOARD).same("before").stays(2);
        m.start(0300);
        new Trace("started with ION and a FLAG", m).to(40).to(41, MB, 0300, MA, 0, CONDITIONS, KEYBOARD).to(0, PC, 1);
        Machine waiting = Machine.at(0200, 06003, 07402);
        waiting.step();
        waiting.step();
        Check.due("HALTED: conditions", waiting.look(CONDITIONS), HALTED);
    }
}
