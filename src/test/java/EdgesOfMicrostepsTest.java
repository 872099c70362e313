import java.util.function.IntPredicate;

/** The boundary cases of the microsteps: a test for each sentence of the document that names one. */
public final class EdgesOfMicrostepsTest {
    private static final int PC = Machine.PC;
    private static final int AC = Machine.AC;
    private static final int LINK = Machine.LINK;
    private static final int MQ = Machine.MQ;
    private static final int MA = Machine.MA;
    private static final int MB = Machine.MB;
    private static final int IR = Machine.IR;
    private static final int STEP = Machine.STEP;
    private static final int CONDITIONS = Machine.CONDITIONS;
    private static final int ION = Machine.ION;
    private static final int DELAY = Machine.DELAY;
    private static final int HALTED = Machine.HALTED;
    private static final int KEYBOARD = Machine.KEYBOARD;
    private static final int PRINTER = Machine.PRINTER;

    public static void main(String[] args) {
        beginAndAddress();
        memoryInstructions();
        operate();
        inputAndOutput();
        Check.finish();
    }

    private static void beginAndAddress() {
        Check.sentence("0 If HALTED: nothing, 0", EdgesOfMicrostepsTest::halted);
        Check.sentence("0 If ION, not DELAY, and a FLAG: 40", EdgesOfMicrostepsTest::interruptOrNot);
        Check.sentence("0 Otherwise DELAY ends, MA = PC, PC = PC + 1; 1", EdgesOfMicrostepsTest::delayEnds);
        Check.sentence("1 20 if IR is 07000 or more, 32 if it is 06000 or more, else 2", EdgesOfMicrostepsTest::everyWordFetched);
        Check.sentence("2 MA = IR & 0177, with MA & 07600 added if IR has the bit 0200", EdgesOfMicrostepsTest::everyAddress);
        Check.sentence("2 3 if IR has the bit 0400, else 8 + the instruction's NUMBER, IR / 512", EdgesOfMicrostepsTest::everyNumber);
        Check.sentence("3 4 if MA is 010 .. 017, else 5", EdgesOfMicrostepsTest::everyPointer);
        Check.sentence("4 MB = MB + 1, it goes into the core at MA", EdgesOfMicrostepsTest::pointerAdvanced);
        Check.sentence("5 MA = MB; 8 + the NUMBER", EdgesOfMicrostepsTest::pointerOfEachNumber);
    }

    private static void memoryInstructions() {
        Check.sentence("16 AC = AC & MB", EdgesOfMicrostepsTest::andOfAllAndNoBits);
        Check.sentence("17 LINK is turned over if the sum was above 07777", EdgesOfMicrostepsTest::tadTurnsLink);
        Check.sentence("18 MB goes into the core at MA, PC = PC + 1 if it is 0", EdgesOfMicrostepsTest::iszAroundZero);
        Check.sentence("19 MB goes into the core at MA, AC = 0", EdgesOfMicrostepsTest::dcaOverItself);
        Check.sentence("15 MB goes into the core at MA, PC = MA + 1", EdgesOfMicrostepsTest::jmsAtTheEnds);
        Check.sentence("13 (JMP) PC = MA", EdgesOfMicrostepsTest::jmpToTheEnds);
    }

    private static void operate() {
        Check.sentence("20 21 if IR has not the bit 0400, else 26 if it has not the bit 01, else 30", EdgesOfMicrostepsTest::everyOperate);
        Check.sentence("21 AC = 0 if the bit 0200, LINK = 0 if 0100", EdgesOfMicrostepsTest::clearings);
        Check.sentence("22 AC = 07777 - AC if 040, LINK is turned over if 020", EdgesOfMicrostepsTest::complements);
        Check.sentence("23 If 01: AC = AC + 1, LINK is turned over if the sum was above 07777", EdgesOfMicrostepsTest::incrementTurnsLink);
        Check.sentence("23 24 if the bits 014 are not both 0, else 0", EdgesOfMicrostepsTest::turnsOrNot);
        Check.sentence("24 turned right by one bit (the lowest bit goes to the top)", EdgesOfMicrostepsTest::everyBitRight);
        Check.sentence("24 if 04: left by one", EdgesOfMicrostepsTest::everyBitLeft);
        Check.sentence("24 If both, right and then left", EdgesOfMicrostepsTest::rightAndLeft);
        Check.sentence("24 25 if 02, else 0", EdgesOfMicrostepsTest::onceOrTwice);
        Check.sentence("25 The same once more", EdgesOfMicrostepsTest::theSameOnceMore);
        Check.sentence("If 02 and neither 010 nor 04, 23 goes to 0 and nothing is turned", EdgesOfMicrostepsTest::twiceOfNothing);
        Check.sentence("26 0100 and AC is 04000 or more", EdgesOfMicrostepsTest::testOfMinus);
        Check.sentence("26 040 and AC is 0", EdgesOfMicrostepsTest::testOfZero);
        Check.sentence("26 020 and LINK is 1", EdgesOfMicrostepsTest::testOfLink);
        Check.sentence("26 If the TEST is yes and the bit 010 is not there, or the other way round", EdgesOfMicrostepsTest::testTheOtherWayRound);
        Check.sentence("27 AC = 0 if 0200", EdgesOfMicrostepsTest::clearedBehindTheTest);
        Check.sentence("27 28 if the bits 06 are not both 0, else 0", EdgesOfMicrostepsTest::switchesOrHaltOrNot);
        Check.sentence("28 If 04: AC = AC or SWITCH, bit by bit", EdgesOfMicrostepsTest::everyBitOfSwitch);
        Check.sentence("28 if 02: HALTED", EdgesOfMicrostepsTest::haltIsDoneWhole);
        Check.sentence("30 AC = 0 if 0200", EdgesOfMicrostepsTest::clearedBeforeMq);
        Check.sentence("31 Both at once", EdgesOfMicrostepsTest::mqAsItWas);
    }

    private static void inputAndOutput() {
        Check.sentence("32 33 if it is 0, 34 if it is 3, 36 if it is 4, else 0", EdgesOfMicrostepsTest::everyDevice);
        Check.sentence("33 If 01, ION and DELAY; if 02, not ION (behind that)", EdgesOfMicrostepsTest::interruptsOnAndOff);
        Check.sentence("34 If 01 and the keyboard's FLAG, PC = PC + 1; if 02, the FLAG ends and AC = 0", EdgesOfMicrostepsTest::keyboardSkip);
        Check.sentence("35 AC = AC or BUFFER", EdgesOfMicrostepsTest::everyBitOfBuffer);
        Check.sentence("36 If 01 and the printer's FLAG, PC = PC + 1; if 02, the FLAG ends", EdgesOfMicrostepsTest::printerSkip);
        Check.sentence("37 If CAP bytes are PRINTED: nothing, 37 (OUTPUT FULL)", EdgesOfMicrostepsTest::outputFull);
        Check.sentence("37 Otherwise AC & 0377 is PRINTED, the printer's FLAG is there", EdgesOfMicrostepsTest::byteOfAc);
        Check.sentence("40 MB = PC, MA = 0, not ION", EdgesOfMicrostepsTest::interruptAtTheEnds);
        Check.sentence("41 MB goes into the core at MA, PC = MA + 1", EdgesOfMicrostepsTest::interruptGoes);
        Check.sentence("all numbers of steps, are decimal", EdgesOfMicrostepsTest::numbersAreDecimal);
    }

    private static void halted() {
        Machine m = Scenes.halted();
        new Trace("HALTED with ION and two FLAGs", m).stays(2).stays(2);
        Check.due("HALTED: run(3)", m.run(3), 0);
        m.start(0300);
        new Trace("HALTED no more", m).to(40);
    }

    /** Each choice of ION, DELAY and the two FLAGs. */
    private static void interruptOrNot() {
        for (int wanted = 0; wanted < 32; wanted++) {
            if ((wanted & HALTED) != 0) {
                continue;
            }
            Machine m = withConditions(wanted);
            boolean interrupts = (wanted & ION) != 0 && (wanted & DELAY) == 0 && (wanted & (KEYBOARD + PRINTER)) != 0;
            Trace t = new Trace("conditions " + wanted, m).expect(CONDITIONS, wanted).same("before");
            if (interrupts) {
                t.to(40);
            } else {
                t.to(1, PC, 0301, MA, 0300, CONDITIONS, wanted & ~DELAY);
            }
        }
    }

    /** The printer's FLAG is made first, ION and DELAY last, as a step 0 ends DELAY. */
    private static Machine withConditions(int wanted) {
        Machine m = Machine.at(0200, (wanted & PRINTER) != 0 ? 06044 : 07000, turning(wanted), 07000);
        m.step();
        m.step();
        if ((wanted & DELAY) == 0) {
            m.step();
        }
        if ((wanted & KEYBOARD) != 0) {
            m.key(5);
        }
        m.start(0300);
        return m;
    }

    private static int turning(int wanted) {
        if ((wanted & ION) != 0) {
            return 06001;
        }
        return (wanted & DELAY) != 0 ? 06003 : 07000;
    }

    private static void delayEnds() {
        Machine m = Machine.at(0200, 06001, 07000, 07000);
        m.key(1);
        m.step();
        new Trace("DELAY ends at the next instruction's begin", m).expect(CONDITIONS, ION + DELAY + KEYBOARD).same("before")
            .to(1, PC, 0202, MA, 0201, CONDITIONS, ION + KEYBOARD);
        m.step();
        new Trace("so the one behind it is not begun", m).to(40);
    }

    private static void everyWordFetched() {
        for (int word = 0; word <= 07777; word++) {
            Machine m = Machine.at(0, word);
            m.microStep();
            Check.due("word " + word + ": microStep()", m.microStep(), 0);
            Check.due("word " + word + ": IR", m.look(IR), word);
            Check.due("word " + word + ": step number", m.look(STEP), word >= 07000 ? 20 : word >= 06000 ? 32 : 2);
        }
    }

    private static void everyAddress() {
        for (int at : new int[] {0, 0177, 0200, 0377, 03777, 04000, 07600, 07777}) {
            for (int low = 0; low <= 0377; low++) {
                Machine m = Machine.at(at, 05000 + low);
                m.microStep();
                m.microStep();
                m.microStep();
                int page = low >= 0200 ? at / 0200 * 0200 : 0;
                Check.due("low bits " + low + " at " + at + ": MA", m.look(MA), page + low % 0200);
            }
        }
    }

    private static void everyNumber() {
        for (int number = 0; number <= 5; number++) {
            for (int low : new int[] {0, 0177, 0200, 0377}) {
                Machine m = Machine.with(0, 0, 0);
                int address = low >= 0200 ? 0400 + low - 0200 : low;
                String name = "number " + number + " with the low bits " + low;
                Trace.fetched(name, m, number * 512 + low, 2).to(8 + number, MA, address);
                Machine pointed = Machine.with(0, 0, 0);
                Trace.fetched(name + " and a pointer", pointed, number * 512 + 0400 + low, 2).to(3, MA, address);
            }
        }
    }

    /** Every address there is as a pointer's: those of the eight first, on page 0, are reached by the bit 0200 too. */
    private static void everyPointer() {
        for (int address = 0; address <= 07777; address++) {
            int behindOnThePage = address / 0200 * 0200 + (address % 0200 + 1) % 0200;
            Machine m = Machine.at(behindOnThePage, 05600 + address % 0200);
            m.deposit(address, 01234);
            m.microStep();
            m.microStep();
            m.microStep();
            Check.due("pointer at " + address + ": step number", m.look(STEP), 3);
            m.microStep();
            Check.due("pointer at " + address + ": MB", m.look(MB), 01234);
            Check.due("pointer at " + address + ": step number", m.look(STEP), address >= 8 && address <= 15 ? 4 : 5);
            m.step();
            Check.due("pointer at " + address + ": PC", m.look(PC), address >= 8 && address <= 15 ? 01235 : 01234);
        }
    }

    private static void pointerAdvanced() {
        for (int word : new int[] {0, 03777, 07776, 07777}) {
            for (int address : new int[] {010, 017}) {
                Machine m = Machine.with(0, 1, 0);
                m.deposit(address, word);
                int next = word == 07777 ? 0 : word + 1;
                Trace.fetched("pointer " + word, m, 05400 + address, 2).to(3, MA, address).to(4, MB, word).core(address, word)
                    .to(5, MB, next).core(address, next).to(13, MA, next).to(0, PC, next);
            }
        }
    }

    private static void pointerOfEachNumber() {
        for (int number = 0; number <= 5; number++) {
            for (int pointer : new int[] {0, 07777}) {
                Machine m = Machine.with(0, 0, 0);
                m.deposit(0477, pointer);
                Trace.fetched("number " + number, m, number * 512 + 0677, 2).to(3, MA, 0477).to(5, MB, pointer)
                    .to(8 + number, MA, pointer);
            }
        }
    }

    private static void andOfAllAndNoBits() {
        int[][] rows = {{07777, 07777, 07777}, {07777, 0, 0}, {0, 07777, 0}, {05252, 02525, 0}, {04001, 06003, 04001}};
        for (int[] row : rows) {
            Machine m = Machine.with(row[0], 1, 0);
            m.deposit(050, row[1]);
            Trace.fetched("AND", m, 00050, 2).to(8, MA, 050).to(16, MB, row[1]).to(0, AC, row[2]);
        }
    }

    private static void tadTurnsLink() {
        int[][] rows = {{03777, 04000}, {04000, 04000}, {07777, 0}, {07777, 1}, {0, 07777}, {1, 07777}, {07777, 07777}};
        for (int[] row : rows) {
            for (int link = 0; link <= 1; link++) {
                Machine m = Machine.with(row[0], link, 0);
                m.deposit(050, row[1]);
                int sum = row[0] + row[1];
                int linkThen = sum > 07777 ? 1 - link : link;
                Trace.fetched("TAD", m, 01050, 2).to(9, MA, 050).to(17, MB, row[1]).to(0, AC, sum % 4096, LINK, linkThen);
            }
        }
    }

    private static void iszAroundZero() {
        for (int word : new int[] {07775, 07776, 07777, 0, 03777}) {
            Machine m = Machine.with(07777, 1, 0);
            m.deposit(050, word);
            int next = word == 07777 ? 0 : word + 1;
            Trace.fetched("ISZ of " + word, m, 02050, 2).to(10, MA, 050).to(18, MB, next).core(050, word)
                .to(0, PC, next == 0 ? 0402 : 0401).core(050, next);
        }
    }

    private static void dcaOverItself() {
        Machine m = Machine.with(07777, 1, 0);
        Trace.fetched("DCA onto its own word", m, 03200, 2).to(11, MA, 0400).to(19, MB, 07777).core(0400, 03200)
            .to(0, AC, 0).core(0400, 07777);
        Machine last = Machine.with(0, 1, 0);
        last.deposit(0, 01234);
        Trace.fetched("DCA of 0 at 0", last, 03000, 2).to(11, MA, 0).to(19, MB, 0).core(0, 01234).to(0).core(0, 0);
    }

    private static void jmsAtTheEnds() {
        Machine m = Machine.with(0, 0, 0);
        Trace.fetchedAt("JMS at 07777 to 0", m, 07777, 04000, 2).to(12, MA, 0).to(15, MB, 0).to(0, PC, 1).core(0, 0);
        m.deposit(050, 07777);
        Trace.fetched("JMS to 07777", m, 04450, 2).to(3, MA, 050).to(5, MB, 07777).to(12, MA, 07777).to(15, MB, 0401)
            .to(0, PC, 0).core(07777, 0401);
    }

    private static void jmpToTheEnds() {
        Machine m = Machine.with(0, 0, 0);
        Trace.fetched("JMP to 0", m, 05000, 2).to(13, MA, 0).to(0, PC, 0);
        Trace.fetchedAt("JMP to 07777", m, 07600, 05377, 2).to(13, MA, 07777).to(0, PC, 07777);
    }

    private static void everyOperate() {
        for (int word = 07000; word <= 07777; word++) {
            Machine m = Machine.at(0, word);
            m.microStep();
            m.microStep();
            m.microStep();
            int due = (word & 0400) == 0 ? 21 : (word & 1) == 0 ? 26 : 30;
            Check.due("word " + word + ": step number", m.look(STEP), due);
        }
    }

    /** AC 05432, LINK 1 and MQ 01234 at the step that 20 goes on to. */
    private static Trace operated(int instruction, int next) {
        return operated(instruction, next, 05432, 1);
    }

    private static Trace operated(int instruction, int next, int ac, int link) {
        String name = "0" + Integer.toOctalString(instruction) + " with AC " + ac + " and LINK " + link;
        return Trace.fetched(name, Machine.with(ac, link, 01234), instruction, 20).to(next);
    }

    private static void clearings() {
        operated(07000, 21).to(22);
        operated(07200, 21).to(22, AC, 0);
        operated(07100, 21).to(22, LINK, 0);
        operated(07300, 21).to(22, AC, 0, LINK, 0);
        operated(07100, 21, 07777, 0).to(22);
    }

    private static void complements() {
        operated(07040, 21, 0, 0).to(22).to(23, AC, 07777);
        operated(07040, 21, 07777, 1).to(22).to(23, AC, 0);
        operated(07020, 21, 0, 0).to(22).to(23, LINK, 1);
        operated(07020, 21, 0, 1).to(22).to(23, LINK, 0);
        operated(07000, 21, 0, 1).to(22).to(23);
        operated(07360, 21, 0123, 1).to(22, AC, 0, LINK, 0).to(23, AC, 07777, LINK, 1);
    }

    private static void incrementTurnsLink() {
        operated(07001, 21, 07776, 0).to(22).to(23).to(0, AC, 07777);
        operated(07001, 21, 07777, 0).to(22).to(23).to(0, AC, 0, LINK, 1);
        operated(07001, 21, 07777, 1).to(22).to(23).to(0, AC, 0, LINK, 0);
        operated(07001, 21, 0, 1).to(22).to(23).to(0, AC, 1);
        operated(07000, 21, 07777, 1).to(22).to(23).to(0);
        operated(07061, 21, 0, 1).to(22).to(23, AC, 07777, LINK, 0).to(0, AC, 0, LINK, 1);
    }

    private static void turnsOrNot() {
        operated(07000, 21).to(22).to(23).to(0);
        operated(07010, 21).to(22).to(23).to(24);
        operated(07004, 21).to(22).to(23).to(24);
        operated(07014, 21).to(22).to(23).to(24);
        operated(07001, 21).to(22).to(23).to(0, AC, 05433);
        operated(07015, 21).to(22).to(23).to(24, AC, 05433);
    }

    private static void turned(int instruction, int ring, int ringThen) {
        operated(instruction, 21, ring & 07777, ring >> 12).to(22).to(23).to(24).to(0, AC, ringThen & 07777, LINK, ringThen >> 12);
    }

    private static void everyBitRight() {
        for (int bit = 0; bit <= 12; bit++) {
            int then = bit == 0 ? 12 : bit - 1;
            turned(07010, 1 << bit, 1 << then);
            turned(07010, 017777 - (1 << bit), 017777 - (1 << then));
        }
    }

    private static void everyBitLeft() {
        for (int bit = 0; bit <= 12; bit++) {
            int then = bit == 12 ? 0 : bit + 1;
            turned(07004, 1 << bit, 1 << then);
            turned(07004, 017777 - (1 << bit), 017777 - (1 << then));
        }
    }

    private static void rightAndLeft() {
        for (int bit = 0; bit <= 12; bit++) {
            turned(07014, 1 << bit, 1 << bit);
        }
    }

    private static void onceOrTwice() {
        operated(07010, 21, 014, 0).to(22).to(23).to(24).to(0, AC, 06);
        operated(07012, 21, 014, 0).to(22).to(23).to(24).to(25, AC, 06);
        operated(07004, 21, 014, 0).to(22).to(23).to(24).to(0, AC, 030);
        operated(07006, 21, 014, 0).to(22).to(23).to(24).to(25, AC, 030);
        operated(07011, 21, 013, 0).to(22).to(23).to(24, AC, 014).to(0, AC, 06);
        operated(07005, 21, 013, 0).to(22).to(23).to(24, AC, 014).to(0, AC, 030);
    }

    private static void theSameOnceMore() {
        operated(07012, 21, 1, 0).to(22).to(23).to(24).to(25, AC, 0, LINK, 1).to(0, AC, 04000, LINK, 0);
        operated(07012, 21, 2, 0).to(22).to(23).to(24).to(25, AC, 1).to(0, AC, 0, LINK, 1);
        operated(07006, 21, 04000, 0).to(22).to(23).to(24).to(25, AC, 0, LINK, 1).to(0, AC, 1, LINK, 0);
        operated(07006, 21, 02000, 0).to(22).to(23).to(24).to(25, AC, 04000).to(0, AC, 0, LINK, 1);
        operated(07016, 21, 04001, 0).to(22).to(23).to(24).to(25).to(0);
    }

    private static void twiceOfNothing() {
        operated(07002, 21).to(22).to(23).to(0);
        operated(07003, 21, 07777, 1).to(22).to(23).to(0, AC, 0, LINK, 0);
    }

    /** The instruction skips just for those of the edges of AC that the rule takes, and the other way round with the bit 010. */
    private static void tests(int instruction, int link, IntPredicate yes) {
        for (int ac : new int[] {0, 1, 03777, 04000, 04001, 07777}) {
            operated(instruction, 26, ac, link).to(27, PC, yes.test(ac) ? 0402 : 0401).to(0);
            operated(instruction + 010, 26, ac, link).to(27, PC, yes.test(ac) ? 0401 : 0402).to(0);
        }
    }

    private static void testOfMinus() {
        tests(07500, 0, ac -> ac >= 04000);
        tests(07500, 1, ac -> ac >= 04000);
    }

    private static void testOfZero() {
        tests(07440, 0, ac -> ac == 0);
        tests(07440, 1, ac -> ac == 0);
    }

    private static void testOfLink() {
        tests(07420, 0, ac -> false);
        tests(07420, 1, ac -> true);
    }

    private static void testTheOtherWayRound() {
        tests(07400, 1, ac -> false);
        tests(07540, 1, ac -> ac == 0 || ac >= 04000);
        tests(07560, 0, ac -> ac == 0 || ac >= 04000);
        tests(07560, 1, ac -> true);
    }

    private static void clearedBehindTheTest() {
        operated(07600, 26).to(27).to(0, AC, 0);
        operated(07400, 26).to(27).to(0);
        operated(07700, 26, 04000, 0).to(27, PC, 0402).to(0, AC, 0);
        operated(07640, 26, 1, 0).to(27).to(0, AC, 0);
    }

    private static void switchesOrHaltOrNot() {
        operated(07400, 26).to(27).to(0);
        operated(07402, 26).to(27).to(28);
        operated(07404, 26).to(27).to(28);
        operated(07406, 26).to(27).to(28);
        operated(07570, 26).to(27).to(0);
    }

    private static void everyBitOfSwitch() {
        for (int bit = 0; bit < 12; bit++) {
            Machine m = Machine.with(0, 1, 0);
            m.switches(1 << bit);
            Trace.fetched("bit " + bit, m, 07404, 20).to(26).to(27).to(28).to(0, AC, 1 << bit);
            m.switches(0);
            Trace.fetched("bit " + bit + " stays", m, 07404, 20).to(26).to(27).to(28).to(0);
            m.switches(1 << bit);
            Trace.fetched("bit " + bit + " is not added", m, 07404, 20).to(26).to(27).to(28).to(0);
        }
        Machine all = Machine.with(05252, 1, 0);
        all.switches(07777);
        Trace.fetched("all bits", all, 07604, 20).to(26).to(27).to(28, AC, 0).to(0, AC, 07777);
    }

    private static void haltIsDoneWhole() {
        Machine m = Machine.with(05252, 1, 0);
        m.switches(07777);
        Trace.fetched("7402 leaves SWITCH alone", m, 07402, 20).to(26).to(27).to(28).to(0, CONDITIONS, HALTED).stays(2);
        operated(07402, 26).to(27).to(28).to(0, CONDITIONS, HALTED).stays(2);
        operated(07404, 26).to(27).to(28).to(0).to(1, PC, 0402, MA, 0401);
        operated(07412, 26).to(27, PC, 0402).to(28).to(0, CONDITIONS, HALTED).stays(2);
    }

    private static void clearedBeforeMq() {
        operated(07601, 30).to(31, AC, 0).to(0);
        operated(07401, 30).to(31).to(0);
    }

    private static void mqAsItWas() {
        operated(07521, 30).to(31).to(0, AC, 01234, MQ, 05432);
        operated(07421, 30).to(31).to(0, AC, 0, MQ, 05432);
        operated(07501, 30).to(31).to(0, AC, 05432 | 01234);
        operated(07401, 30).to(31).to(0);
        operated(07721, 30).to(31, AC, 0).to(0, AC, 01234, MQ, 0);
        operated(07501, 30, 0, 0).to(31).to(0, AC, 01234);
        operated(07501, 30, 07777, 0).to(31).to(0);
    }

    private static void everyDevice() {
        for (int word = 06000; word <= 06777; word++) {
            Machine m = Machine.at(0, word);
            m.microStep();
            m.microStep();
            int device = word / 8 % 64;
            int due = device == 0 ? 33 : device == 3 ? 34 : device == 4 ? 36 : 0;
            Check.due("word " + word + ": microStep()", m.microStep(), due == 0 ? 1 : 0);
            Check.due("word " + word + ": step number", m.look(STEP), due);
        }
    }

    private static void interruptsOnAndOff() {
        int[] due = {0, ION + DELAY, 0, DELAY, 0, ION + DELAY, 0, DELAY};
        for (int bits = 0; bits < 8; bits++) {
            Trace.fetched("600" + bits, Machine.with(0, 0, 0), 06000 + bits, 32).to(33).to(0, CONDITIONS, due[bits]);
        }
        Machine m = Machine.at(0200, 06001, 06002, 06001, 06003);
        int[] then = {ION + DELAY, 0, ION + DELAY, DELAY};
        for (int conditions : then) {
            m.step();
            Check.due("6001 6002 6001 6003: conditions", m.look(CONDITIONS), conditions);
        }
    }

    /** Each choice of the three bits with the FLAG and without: the skip is settled before the FLAG ends. */
    private static void keyboardSkip() {
        for (int bits = 0; bits < 8; bits++) {
            for (int flag = 0; flag <= 1; flag++) {
                Machine m = Machine.with(01234, 1, 0);
                if (flag == 1) {
                    m.key(0311);
                }
                int conditions = flag == 1 && (bits & 2) == 0 ? KEYBOARD : 0;
                Trace.fetched("603" + bits + " with the FLAG " + flag, m, 06030 + bits, 32).to(34)
                    .to((bits & 4) != 0 ? 35 : 0, PC, (bits & 1) != 0 && flag == 1 ? 0402 : 0401,
                        AC, (bits & 2) != 0 ? 0 : 01234, CONDITIONS, conditions);
            }
        }
    }

    private static void everyBitOfBuffer() {
        for (int c : new int[] {0, 1, 2, 4, 8, 16, 32, 64, 128, 255}) {
            Machine m = Machine.with(07070, 1, 0);
            m.key(c);
            Trace.fetched("BUFFER " + c, m, 06034, 32).to(34).to(35).to(0, AC, 07070 | c);
            Trace.fetched("BUFFER " + c + " when the FLAG ends", m, 06036, 32).to(34).to(35, AC, 0, CONDITIONS, 0).to(0, AC, c);
            Trace.fetched("BUFFER " + c + " without the FLAG", m, 06036, 32).to(34).to(35, AC, 0).to(0, AC, c);
        }
    }

    private static void printerSkip() {
        for (int bits = 0; bits < 8; bits++) {
            for (int flag = 0; flag <= 1; flag++) {
                Machine m = Machine.with(01234, 1, 0);
                m.words(0200, flag == 1 ? 06044 : 07000, 07402);
                m.start(0200);
                m.run(2);
                int conditions = flag == 1 && (bits & 2) == 0 ? PRINTER : 0;
                Trace.fetched("604" + bits + " with the FLAG " + flag, m, 06040 + bits, 32).to(36)
                    .to((bits & 4) != 0 ? 37 : 0, PC, (bits & 1) != 0 && flag == 1 ? 0402 : 0401, CONDITIONS, conditions);
            }
        }
    }

    private static void outputFull() {
        for (int cap = 0; cap <= 2; cap++) {
            Machine m = Machine.with(cap, 0123, 1, 0);
            for (int i = 0; i < cap; i++) {
                Trace.fetched("byte " + i, m, 06046, 32).to(36, CONDITIONS, i == 0 ? 0 : PRINTER)
                    .to(37, CONDITIONS, 0).to(0, CONDITIONS, PRINTER);
            }
            Trace.fetched("one byte too many for " + cap, m, 06046, 32).to(36).to(37, CONDITIONS, 0).stays(4).stays(4);
            m.key(3);
            m.switches(07777);
            new Trace("full still for " + cap, m).stays(4);
            Check.due("cap " + cap + ": printed(-1)", m.printed(-1), cap);
            Check.due("cap " + cap + ": printed(" + cap + ")", m.printed(cap), MicroEight.NONE);
            m.init();
            Check.due("cap " + cap + ", init: step number", m.look(STEP), 0);
        }
    }

    private static void byteOfAc() {
        int[][] rows = {{0, 0}, {1, 1}, {0377, 0377}, {0400, 0}, {0401, 1}, {07400, 0}, {07777, 0377}};
        for (int[] row : rows) {
            Machine m = Machine.with(row[0], 1, 0);
            Trace.fetched("AC " + row[0], m, 06044, 32).to(36).to(37).to(0, CONDITIONS, PRINTER);
            Check.due("AC " + row[0] + ": printed(-1)", m.printed(-1), 1);
            Check.due("AC " + row[0] + ": printed(0)", m.printed(0), row[1]);
        }
    }

    /** ION and a FLAG, about to begin at the address. */
    private static Machine interrupted(int pc) {
        Machine m = Machine.at(0200, 06001, 07000);
        m.key(1);
        m.step();
        m.step();
        m.start(pc);
        return m;
    }

    private static void interruptAtTheEnds() {
        for (int pc : new int[] {0, 1, 07776, 07777}) {
            new Trace("PC " + pc, interrupted(pc)).to(40).to(41, MB, pc, MA, 0, CONDITIONS, KEYBOARD);
        }
    }

    private static void interruptGoes() {
        for (int pc : new int[] {0, 1, 07776, 07777}) {
            Machine m = interrupted(pc);
            m.deposit(0, 05252);
            new Trace("PC " + pc, m).to(40).to(41, MB, pc, MA, 0, CONDITIONS, KEYBOARD).core(0, 05252)
                .to(0, PC, 1).core(0, pc).to(1, PC, 2, MA, 1);
        }
    }

    private static void numbersAreDecimal() {
        Machine m = interrupted(0300);
        m.microStep();
        Check.due("step number", m.look(STEP), 40);
        m.microStep();
        Check.due("step number", m.look(STEP), 41);
    }
}
