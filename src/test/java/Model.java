/**
 * The same computer told instruction by instruction instead of microstep by microstep, so that
 * the two can be held against each other. It knows its microsteps only by their count.
 */
final class Model {
    final int[] core = new int[4096];
    final int[] paper;
    int printedCount;
    int pc;
    int ac;
    int link;
    int mq;
    int ma;
    int mb;
    int ir;
    int switchWord;
    int buffer;
    boolean ion;
    boolean delay;
    boolean halted;
    boolean keyboardFlag;
    boolean printerFlag;
    boolean microcode;
    boolean waitsForPaper;
    int microsteps;

    Model(int cap) {
        paper = new int[cap < 0 ? 0 : cap > 100 ? 100 : cap];
    }

    void init() {
        microcode = true;
        pc = ac = link = mq = ma = mb = ir = buffer = printedCount = microsteps = 0;
        ion = delay = halted = keyboardFlag = printerFlag = waitsForPaper = false;
    }

    int step() {
        if (!microcode) {
            return 3;
        }
        if (waitsForPaper) {
            return 4;
        }
        if (halted) {
            return 2;
        }
        if (ion && !delay && (keyboardFlag || printerFlag)) {
            core[0] = mb = pc;
            ma = 0;
            pc = 1;
            ion = false;
            microsteps += 3;
            return 0;
        }
        delay = false;
        ma = pc;
        pc = (pc + 1) % 4096;
        ir = mb = core[ma];
        microsteps += 2;
        int number = ir >> 9;
        if (number == 7) {
            operate();
        } else if (number == 6) {
            return inputAndOutput();
        } else {
            memory(number);
        }
        return 0;
    }

    private boolean bit(int b) {
        return (ir / b) % 2 == 1;
    }

    private void memory(int number) {
        ma = (bit(0200) ? ma / 128 * 128 : 0) + ir % 128;
        microsteps++;
        if (bit(0400)) {
            microsteps += 2;
            if (ma / 8 == 1) {
                core[ma] = (core[ma] + 1) % 4096;
                microsteps++;
            }
            ma = core[ma];
        }
        microsteps += number == 5 ? 1 : 2;
        switch (number) {
            case 0 -> ac = ac & (mb = core[ma]);
            case 1 -> add(mb = core[ma]);
            case 2 -> {
                core[ma] = mb = (core[ma] + 1) % 4096;
                pc = (pc + (mb == 0 ? 1 : 0)) % 4096;
            }
            case 3 -> {
                core[ma] = mb = ac;
                ac = 0;
            }
            case 4 -> {
                core[ma] = mb = pc;
                pc = (ma + 1) % 4096;
            }
            default -> {
                mb = bit(0400) ? ma : mb;
                pc = ma;
            }
        }
    }

    private void add(int word) {
        int all = (link * 4096 + ac + word) % 8192;
        link = all / 4096;
        ac = all % 4096;
    }

    private void operate() {
        if (!bit(0400)) {
            operateOnAc();
        } else if (!bit(01)) {
            operateByTest();
        } else {
            int a = bit(0200) ? 0 : ac;
            int q = mq;
            mq = bit(020) ? a : q;
            ac = (bit(020) ? 0 : a) | (bit(0100) ? q : 0);
            microsteps += 3;
        }
    }

    private void operateOnAc() {
        microsteps += 4;
        if (bit(0200)) {
            ac = 0;
        }
        if (bit(0100)) {
            link = 0;
        }
        if (bit(040)) {
            ac ^= 07777;
        }
        if (bit(020)) {
            link ^= 1;
        }
        if (bit(01)) {
            add(1);
        }
        if (bit(010) || bit(04)) {
            int times = bit(02) ? 2 : 1;
            microsteps += times;
            int places = (bit(04) ? times : 0) - (bit(010) ? times : 0);
            long twice = (link * 4096L + ac) * 8193L;
            int turned = (int) (twice >> (13 - places) % 13) % 8192;
            link = turned / 4096;
            ac = turned % 4096;
        }
    }

    private void operateByTest() {
        microsteps += 3;
        boolean test = bit(0100) && ac / 2048 == 1 || bit(040) && ac == 0 || bit(020) && link == 1;
        if (bit(010) ? !test : test) {
            pc = (pc + 1) % 4096;
        }
        if (bit(0200)) {
            ac = 0;
        }
        if (bit(04) || bit(02)) {
            microsteps++;
            ac |= bit(04) ? switchWord : 0;
            halted = bit(02);
        }
    }

    private int inputAndOutput() {
        microsteps++;
        int device = ir / 8 % 64;
        if (device == 0) {
            microsteps++;
            delay = bit(01);
            ion = !bit(02) && (bit(01) || ion);
        } else if (device == 3) {
            microsteps += bit(04) ? 2 : 1;
            pc = (pc + (bit(01) && keyboardFlag ? 1 : 0)) % 4096;
            ac = (bit(02) ? 0 : ac) | (bit(04) ? buffer : 0);
            keyboardFlag &= !bit(02);
        } else if (device == 4) {
            microsteps++;
            pc = (pc + (bit(01) && printerFlag ? 1 : 0)) % 4096;
            printerFlag &= !bit(02);
            if (bit(04) && printedCount == paper.length) {
                waitsForPaper = true;
                return 4;
            }
            if (bit(04)) {
                microsteps++;
                paper[printedCount++] = ac % 256;
                printerFlag = true;
            }
        }
        return 0;
    }

    int run(int n) {
        int made = 0;
        while (made < n && step() == 0) {
            made++;
        }
        return made;
    }

    int look(int which) {
        int conditions = (ion ? 1 : 0) | (delay ? 2 : 0) | (halted ? 4 : 0) | (keyboardFlag ? 8 : 0) | (printerFlag ? 16 : 0);
        int[] all = {pc, ac, link, mq, ma, mb, ir, waitsForPaper ? 37 : 0, conditions, buffer, microsteps};
        return which >= 0 && which < all.length ? all[which] : -1;
    }
}
