/**
 * A small computer with words of twelve bits whose instructions are done by microsteps.
 *
 * The numbers of the microsteps are the document's and decimal; addresses, masks and the bits of
 * an instruction are octal, as the document writes them.
 */
public final class MicroEight {
    public static final int NONE = -1;

    private static final int WORD = 07777;
    private static final int CORE_SIZE = 010000;
    private static final int LINK_AND_AC = 017777;
    private static final int LINK_SHIFT = 12;
    private static final int WORD_BITS = 12;
    private static final int MOST_WORDS_IN_LOAD = 5;
    private static final int MOST_STEPS_IN_RUN = 500;
    // The longest instruction takes 8 microsteps; the bound stands well above that.
    private static final int MOST_MICROSTEPS_IN_STEP = 64;

    // What step answers if its last microstep ended an instruction.
    private static final int STEP_MADE = 0;

    // What microStep answers.
    private static final int UNDER_WAY = 0;
    private static final int INSTRUCTION_ENDED = 1;
    private static final int IS_HALTED = 2;
    private static final int NO_MICROCODE = 3;
    private static final int OUTPUT_FULL = 4;

    // The microsteps, by their numbers in the document.
    private static final int BEGIN = 0;
    private static final int FETCH = 1;
    private static final int FIND_ADDRESS = 2;
    private static final int READ_POINTER = 3;
    private static final int ADVANCE_POINTER = 4;
    private static final int FOLLOW_POINTER = 5;
    private static final int FIRST_OF_NUMBER = 8;
    private static final int AND_READ = 8;
    private static final int TAD_READ = 9;
    private static final int ISZ_READ = 10;
    private static final int DCA_TAKE = 11;
    private static final int JMS_TAKE = 12;
    private static final int JMP_GO = 13;
    private static final int JMS_GO = 15;
    private static final int AND_END = 16;
    private static final int TAD_END = 17;
    private static final int ISZ_END = 18;
    private static final int DCA_END = 19;
    private static final int OPERATE = 20;
    private static final int CLEAR = 21;
    private static final int COMPLEMENT = 22;
    private static final int INCREMENT = 23;
    private static final int ROTATE = 24;
    private static final int ROTATE_AGAIN = 25;
    private static final int TEST = 26;
    private static final int CLEAR_AFTER_TEST = 27;
    private static final int SWITCHES_AND_HALT = 28;
    private static final int CLEAR_BEFORE_MQ = 30;
    private static final int EXCHANGE_MQ = 31;
    private static final int INPUT_OUTPUT = 32;
    private static final int INTERRUPT_DEVICE = 33;
    private static final int KEYBOARD_DEVICE = 34;
    private static final int KEYBOARD_READ = 35;
    private static final int PRINTER_DEVICE = 36;
    private static final int PRINTER_WRITE = 37;
    private static final int INTERRUPT = 40;
    private static final int INTERRUPT_GO = 41;

    private final int[] core = new int[CORE_SIZE];
    private final Keyboard keyboard = new Keyboard();
    private final Printer printer;
    private int pc;
    private int ac;
    private int link;
    private int mq;
    private int ma;
    private int mb;
    private int ir;
    private int switchWord;
    private boolean ion;
    private boolean delay;
    private boolean halted;
    private boolean hasMicrocode;
    private int stepNumber;
    private int microstepsMade;

    public MicroEight(int cap) {
        printer = new Printer(Math.max(0, Math.min(Printer.MOST_CAP, cap)));
    }

    public void init() {
        hasMicrocode = true;
        pc = 0;
        ac = 0;
        link = 0;
        mq = 0;
        ma = 0;
        mb = 0;
        ir = 0;
        ion = false;
        delay = false;
        halted = false;
        stepNumber = BEGIN;
        microstepsMade = 0;
        keyboard.reset();
        printer.reset();
    }

    public boolean deposit(int address, int word) {
        if (!isAddress(address)) {
            return false;
        }
        write(address, word);
        return true;
    }

    public int examine(int address) {
        return isAddress(address) ? read(address) : NONE;
    }

    public boolean load(int address, int n, long words) {
        if (n < 1 || n > MOST_WORDS_IN_LOAD || !isAddress(address)) {
            return false;
        }
        for (int i = 0; i < n; i++) {
            write(address + i, (int) (words >>> WORD_BITS * (n - 1 - i)));
        }
        return true;
    }

    public boolean start(int pc) {
        if (!hasMicrocode || stepNumber != BEGIN) {
            return false;
        }
        this.pc = pc & WORD;
        halted = false;
        return true;
    }

    public void switches(int v) {
        switchWord = v & WORD;
    }

    public void key(int c) {
        keyboard.press(c);
    }

    public int microStep() {
        if (!hasMicrocode) {
            return NO_MICROCODE;
        }
        if (stepNumber == BEGIN && halted) {
            return IS_HALTED;
        }
        if (stepNumber == PRINTER_WRITE && printer.isFull()) {
            return OUTPUT_FULL;
        }
        stepNumber = perform(stepNumber);
        microstepsMade++;
        return stepNumber == BEGIN ? INSTRUCTION_ENDED : UNDER_WAY;
    }

    public int step() {
        int answer = microStep();
        for (int made = 1; made < MOST_MICROSTEPS_IN_STEP && answer == UNDER_WAY; made++) {
            answer = microStep();
        }
        return answer == INSTRUCTION_ENDED ? STEP_MADE : answer;
    }

    public int run(int n) {
        if (n < 0 || n > MOST_STEPS_IN_RUN) {
            return NONE;
        }
        int made = 0;
        while (made < n && step() == STEP_MADE) {
            made++;
        }
        return made;
    }

    public int look(int which) {
        switch (which) {
            case 0: return pc;
            case 1: return ac;
            case 2: return link;
            case 3: return mq;
            case 4: return ma;
            case 5: return mb;
            case 6: return ir;
            case 7: return stepNumber;
            case 8: return conditions();
            case 9: return keyboard.buffer;
            case 10: return microstepsMade;
            default: return NONE;
        }
    }

    public int printed(int i) {
        return i == -1 ? printer.count : printer.byteAt(i);
    }

    private int conditions() {
        return (ion ? 1 : 0) + (delay ? 2 : 0) + (halted ? 4 : 0)
            + (keyboard.flag ? 8 : 0) + (printer.flag ? 16 : 0);
    }

    private static boolean isAddress(int address) {
        return address >= 0 && address < CORE_SIZE;
    }

    private int read(int address) {
        return core[address & WORD];
    }

    private void write(int address, int word) {
        core[address & WORD] = word & WORD;
    }

    /** True if one of the bits is there, or more than one. */
    private boolean irHas(int bits) {
        return (ir & bits) != 0;
    }

    /** Does the microstep of this number and answers the number of the next. */
    private int perform(int number) {
        switch (number) {
            case BEGIN: return begin();
            case FETCH: return fetch();
            case FIND_ADDRESS: return findAddress();
            case READ_POINTER: return readPointer();
            case ADVANCE_POINTER: return advancePointer();
            case FOLLOW_POINTER: return followPointer();
            case AND_READ: return readOperand(AND_END);
            case TAD_READ: return readOperand(TAD_END);
            case ISZ_READ: return readOneMore();
            case DCA_TAKE: return takeIntoMb(ac, DCA_END);
            case JMS_TAKE: return takeIntoMb(pc, JMS_GO);
            case JMP_GO: return jump();
            case JMS_GO: return storeAndGoBehind();
            case AND_END: return andOperand();
            case TAD_END: return addOperand();
            case ISZ_END: return storeAndSkipIfZero();
            case DCA_END: return storeAndClear();
            case OPERATE: return chooseOperateGroup();
            case CLEAR: return clear();
            case COMPLEMENT: return complement();
            case INCREMENT: return increment();
            case ROTATE: return rotateFirst();
            case ROTATE_AGAIN: return rotateLast();
            case TEST: return test();
            case CLEAR_AFTER_TEST: return clearAfterTest();
            case SWITCHES_AND_HALT: return switchesAndHalt();
            case CLEAR_BEFORE_MQ: return clearBeforeMq();
            case EXCHANGE_MQ: return exchangeMq();
            case INPUT_OUTPUT: return chooseDevice();
            case INTERRUPT_DEVICE: return turnInterrupts();
            case KEYBOARD_DEVICE: return askKeyboard();
            case KEYBOARD_READ: return readKeyboard();
            case PRINTER_DEVICE: return askPrinter();
            case PRINTER_WRITE: return writePrinter();
            case INTERRUPT: return interrupt();
            case INTERRUPT_GO: return storeAndGoBehind();
            default: return BEGIN;
        }
    }

    private int begin() {
        if (ion && !delay && (keyboard.flag || printer.flag)) {
            return INTERRUPT;
        }
        delay = false;
        ma = pc;
        advancePc();
        return FETCH;
    }

    private void advancePc() {
        pc = pc + 1 & WORD;
    }

    private int fetch() {
        mb = read(ma);
        ir = mb;
        if (ir >= 07000) {
            return OPERATE;
        }
        return ir >= 06000 ? INPUT_OUTPUT : FIND_ADDRESS;
    }

    private int findAddress() {
        int page = irHas(0200) ? ma & 07600 : 0;
        ma = page + (ir & 0177);
        return irHas(0400) ? READ_POINTER : firstOfInstruction();
    }

    private int firstOfInstruction() {
        return FIRST_OF_NUMBER + ir / 512;
    }

    private int readPointer() {
        mb = read(ma);
        return ma >= 010 && ma <= 017 ? ADVANCE_POINTER : FOLLOW_POINTER;
    }

    private int advancePointer() {
        mb = mb + 1 & WORD;
        write(ma, mb);
        return FOLLOW_POINTER;
    }

    private int followPointer() {
        ma = mb;
        return firstOfInstruction();
    }

    private int readOperand(int next) {
        mb = read(ma);
        return next;
    }

    private int readOneMore() {
        mb = read(ma) + 1 & WORD;
        return ISZ_END;
    }

    private int takeIntoMb(int word, int next) {
        mb = word;
        return next;
    }

    private int jump() {
        pc = ma;
        return BEGIN;
    }

    private int storeAndGoBehind() {
        write(ma, mb);
        pc = ma + 1 & WORD;
        return BEGIN;
    }

    private int andOperand() {
        ac &= mb;
        return BEGIN;
    }

    private int addOperand() {
        addToAc(mb);
        return BEGIN;
    }

    private void addToAc(int word) {
        int sum = ac + word;
        if (sum > WORD) {
            turnLinkOver();
        }
        ac = sum & WORD;
    }

    private void turnLinkOver() {
        link = 1 - link;
    }

    private int storeAndSkipIfZero() {
        write(ma, mb);
        if (mb == 0) {
            advancePc();
        }
        return BEGIN;
    }

    private int storeAndClear() {
        write(ma, mb);
        ac = 0;
        return BEGIN;
    }

    private int chooseOperateGroup() {
        if (!irHas(0400)) {
            return CLEAR;
        }
        return irHas(01) ? CLEAR_BEFORE_MQ : TEST;
    }

    private void clearAcIfAsked() {
        if (irHas(0200)) {
            ac = 0;
        }
    }

    private int clear() {
        clearAcIfAsked();
        if (irHas(0100)) {
            link = 0;
        }
        return COMPLEMENT;
    }

    private int complement() {
        if (irHas(040)) {
            ac = WORD - ac;
        }
        if (irHas(020)) {
            turnLinkOver();
        }
        return INCREMENT;
    }

    private int increment() {
        if (irHas(01)) {
            addToAc(1);
        }
        return irHas(014) ? ROTATE : BEGIN;
    }

    private int rotateFirst() {
        rotate();
        return irHas(02) ? ROTATE_AGAIN : BEGIN;
    }

    private int rotateLast() {
        rotate();
        return BEGIN;
    }

    private void rotate() {
        int ring = link << LINK_SHIFT | ac;
        if (irHas(010)) {
            ring = ring >> 1 | (ring & 1) << LINK_SHIFT;
        }
        if (irHas(04)) {
            ring = (ring << 1 | ring >> LINK_SHIFT) & LINK_AND_AC;
        }
        link = ring >> LINK_SHIFT;
        ac = ring & WORD;
    }

    private int test() {
        boolean yes = irHas(0100) && ac >= 04000 || irHas(040) && ac == 0 || irHas(020) && link == 1;
        if (yes != irHas(010)) {
            advancePc();
        }
        return CLEAR_AFTER_TEST;
    }

    private int clearAfterTest() {
        clearAcIfAsked();
        return irHas(06) ? SWITCHES_AND_HALT : BEGIN;
    }

    private int switchesAndHalt() {
        if (irHas(04)) {
            ac |= switchWord;
        }
        if (irHas(02)) {
            halted = true;
        }
        return BEGIN;
    }

    private int clearBeforeMq() {
        clearAcIfAsked();
        return EXCHANGE_MQ;
    }

    private int exchangeMq() {
        int mqBefore = mq;
        int acKept = ac;
        if (irHas(020)) {
            mq = ac;
            acKept = 0;
        }
        ac = irHas(0100) ? acKept | mqBefore : acKept;
        return BEGIN;
    }

    private int chooseDevice() {
        switch (ir / 8 & 077) {
            case 0: return INTERRUPT_DEVICE;
            case 3: return KEYBOARD_DEVICE;
            case 4: return PRINTER_DEVICE;
            default: return BEGIN;
        }
    }

    private int turnInterrupts() {
        if (irHas(01)) {
            ion = true;
            delay = true;
        }
        if (irHas(02)) {
            ion = false;
        }
        return BEGIN;
    }

    private int askKeyboard() {
        if (irHas(01) && keyboard.flag) {
            advancePc();
        }
        if (irHas(02)) {
            keyboard.flag = false;
            ac = 0;
        }
        return irHas(04) ? KEYBOARD_READ : BEGIN;
    }

    private int readKeyboard() {
        ac |= keyboard.buffer;
        return BEGIN;
    }

    private int askPrinter() {
        if (irHas(01) && printer.flag) {
            advancePc();
        }
        if (irHas(02)) {
            printer.flag = false;
        }
        return irHas(04) ? PRINTER_WRITE : BEGIN;
    }

    private int writePrinter() {
        printer.print(ac);
        return BEGIN;
    }

    private int interrupt() {
        mb = pc;
        ma = 0;
        ion = false;
        return INTERRUPT_GO;
    }

    private static final class Keyboard {
        private static final int BYTE = 255;

        private boolean flag;
        private int buffer;

        private void reset() {
            flag = false;
            buffer = 0;
        }

        private void press(int c) {
            buffer = c & BYTE;
            flag = true;
        }
    }

    private static final class Printer {
        private static final int MOST_CAP = 100;
        private static final int BYTE = 0377;

        private final int[] bytes;
        private int count;
        private boolean flag;

        private Printer(int cap) {
            bytes = new int[cap];
        }

        private void reset() {
            count = 0;
            flag = false;
        }

        private boolean isFull() {
            return count >= bytes.length;
        }

        private void print(int word) {
            if (isFull()) {
                return;
            }
            bytes[count] = word & BYTE;
            count++;
            flag = true;
        }

        private int byteAt(int i) {
            return i >= 0 && i < count ? bytes[i] : NONE;
        }
    }
}
