/**
 * The document's list of microsteps, copied down number by number and nothing else, so that a machine can be held
 * against it in the middle of an instruction too, where the Model knows nothing.
 */
final class Microcode {
    private static final int WORD = 07777;

    final int[] core = new int[4096];
    final int[] printed;
    int count;
    int pc;
    int ac;
    int link;
    int mq;
    int ma;
    int mb;
    int ir;
    int number;
    int switchWord;
    int buffer;
    boolean ion;
    boolean delay;
    boolean halted;
    boolean keyboardFlag;
    boolean printerFlag;
    boolean there;
    int made;

    Microcode(int cap) {
        printed = new int[cap < 0 ? 0 : cap > 100 ? 100 : cap];
    }

    void init() {
        there = true;
        pc = ac = link = mq = ma = mb = ir = number = buffer = count = made = 0;
        ion = delay = halted = keyboardFlag = printerFlag = false;
    }

    int microStep() {
        if (!there) {
            return 3;
        }
        if (number == 0 && halted) {
            return 2;
        }
        if (number == 37 && count == printed.length) {
            return 4;
        }
        number = number < 20 ? memory() : number < 32 ? operate() : inputOutput();
        made++;
        return number == 0 ? 1 : 0;
    }

    int step() {
        int answer;
        do {
            answer = microStep();
        } while (answer == 0);
        return answer == 1 ? 0 : answer;
    }

    int run(int n) {
        int steps = 0;
        while (steps < n && step() == 0) {
            steps++;
        }
        return steps;
    }

    int look(int which) {
        int yes = (ion ? 1 : 0) + (delay ? 2 : 0) + (halted ? 4 : 0) + (keyboardFlag ? 8 : 0) + (printerFlag ? 16 : 0);
        int[] all = {pc, ac, link, mq, ma, mb, ir, number, yes, buffer, made};
        return which >= 0 && which < all.length ? all[which] : -1;
    }

    private boolean bit(int bit) {
        return (ir & bit) == bit;
    }

    private void skip(boolean yes) {
        pc = yes ? pc + 1 & WORD : pc;
    }

    private void add(int word) {
        if (ac + word > WORD) {
            link ^= 1;
        }
        ac = ac + word & WORD;
    }

    private int memory() {
        switch (number) {
            case 0:
                if (ion && !delay && (keyboardFlag || printerFlag)) {
                    return 40;
                }
                delay = false;
                ma = pc;
                skip(true);
                return 1;
            case 1:
                mb = core[ma];
                ir = mb;
                return ir >= 07000 ? 20 : ir >= 06000 ? 32 : 2;
            case 2:
                ma = (ir & 0177) + (bit(0200) ? ma & 07600 : 0);
                return bit(0400) ? 3 : 8 + ir / 512;
            case 3:
                mb = core[ma];
                return ma >= 010 && ma <= 017 ? 4 : 5;
            case 4:
                mb = mb + 1 & WORD;
                core[ma] = mb;
                return 5;
            case 5:
                ma = mb;
                return 8 + ir / 512;
            case 8:
                mb = core[ma];
                return 16;
            case 16:
                ac = ac & mb;
                return 0;
            case 9:
                mb = core[ma];
                return 17;
            case 17:
                add(mb);
                return 0;
            case 10:
                mb = core[ma] + 1 & WORD;
                return 18;
            case 18:
                core[ma] = mb;
                skip(mb == 0);
                return 0;
            case 11:
                mb = ac;
                return 19;
            case 19:
                core[ma] = mb;
                ac = 0;
                return 0;
            case 12:
                mb = pc;
                return 15;
            case 15:
                core[ma] = mb;
                pc = ma + 1 & WORD;
                return 0;
            case 13:
                pc = ma;
                return 0;
            default:
                throw new IllegalStateException("no microstep " + number);
        }
    }

    private int operate() {
        switch (number) {
            case 20:
                return !bit(0400) ? 21 : !bit(01) ? 26 : 30;
            case 21:
                ac = bit(0200) ? 0 : ac;
                link = bit(0100) ? 0 : link;
                return 22;
            case 22:
                ac = bit(040) ? 07777 - ac : ac;
                link = bit(020) ? 1 - link : link;
                return 23;
            case 23:
                if (bit(01)) {
                    add(1);
                }
                return (ir & 014) != 0 ? 24 : 0;
            case 24:
                turn();
                return bit(02) ? 25 : 0;
            case 25:
                turn();
                return 0;
            case 26:
                boolean test = bit(0100) && ac >= 04000 || bit(040) && ac == 0 || bit(020) && link == 1;
                skip(test && !bit(010) || !test && bit(010));
                return 27;
            case 27:
                ac = bit(0200) ? 0 : ac;
                return (ir & 06) != 0 ? 28 : 0;
            case 28:
                ac = bit(04) ? ac | switchWord : ac;
                halted = halted || bit(02);
                return 0;
            case 30:
                ac = bit(0200) ? 0 : ac;
                return 31;
            case 31:
                int was = mq;
                mq = bit(020) ? ac : mq;
                ac = bit(0120) ? was : bit(020) ? 0 : bit(0100) ? ac | was : ac;
                return 0;
            default:
                throw new IllegalStateException("no microstep " + number);
        }
    }

    private void turn() {
        if (bit(010)) {
            int lowest = ac % 2;
            ac = link * 2048 + ac / 2;
            link = lowest;
        }
        if (bit(04)) {
            int top = link;
            link = ac / 2048;
            ac = ac % 2048 * 2 + top;
        }
    }

    private int inputOutput() {
        switch (number) {
            case 32:
                int device = ir / 8 & 077;
                return device == 0 ? 33 : device == 3 ? 34 : device == 4 ? 36 : 0;
            case 33:
                ion = ion || bit(01);
                delay = delay || bit(01);
                ion = ion && !bit(02);
                return 0;
            case 34:
                skip(bit(01) && keyboardFlag);
                if (bit(02)) {
                    keyboardFlag = false;
                    ac = 0;
                }
                return bit(04) ? 35 : 0;
            case 35:
                ac = ac | buffer;
                return 0;
            case 36:
                skip(bit(01) && printerFlag);
                printerFlag = printerFlag && !bit(02);
                return bit(04) ? 37 : 0;
            case 37:
                printed[count] = ac & 0377;
                count++;
                printerFlag = true;
                return 0;
            case 40:
                mb = pc;
                ma = 0;
                ion = false;
                return 41;
            case 41:
                core[ma] = mb;
                pc = ma + 1 & WORD;
                return 0;
            default:
                throw new IllegalStateException("no microstep " + number);
        }
    }
}
