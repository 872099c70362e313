/** Each promise of the document by itself: ordinary inputs, the named edges, wrong inputs. */
public final class PromisesTest {
    private static final int MIN = Integer.MIN_VALUE;
    private static final int MAX = Integer.MAX_VALUE;
    private static final int NONE = MicroEight.NONE;

    public static void main(String[] args) {
        promise1();
        promise1Cap();
        promise2();
        promise2InTheMiddle();
        promise3();
        promise4();
        promise5();
        promise5Refused();
        promise6();
        promise6Refused();
        promise7();
        promise8();
        promise9();
        promise10();
        promise11();
        promise11Ends();
        promise12();
        promise12Count();
        promise13();
        Check.finish();
    }

    private static void allZero(String when, Machine m) {
        for (int which = 0; which <= 10; which++) {
            Check.due(when + ": look(" + which + ")", m.look(which), 0);
        }
        Check.due(when + ": printed(-1)", m.printed(-1), 0);
        Check.due(when + ": printed(0)", m.printed(0), NONE);
    }

    private static void promise1() {
        Machine m = new Machine(3);
        allZero("1 new", m);
        for (int address = 0; address < 4096; address += 195) {
            Check.due("1 new: examine", m.examine(address), 0);
        }
        Check.due("1 no microcode: microStep()", m.microStep(), 3);
        Check.due("1 no microcode: step()", m.step(), 3);
        Check.due("1 no microcode: run(5)", m.run(5), 0);
        Check.due("1 no microcode: run(501)", m.run(501), NONE);
        Check.due("1 no microcode: start(0200)", m.start(0200), false);
        allZero("1 after refused calls", m);
        Check.due("1 no microcode: deposit", m.deposit(0, 07404), true);
        Check.due("1 no microcode: load", m.load(1, 1, 07402), true);
        m.switches(01234);
        m.key('A');
        Check.due("1 no microcode: BUFFER", m.look(9), 'A');
        Check.due("1 no microcode: FLAG", m.look(8), Machine.KEYBOARD);
        Check.due("1 no microcode still: microStep()", m.microStep(), 3);
        m.init();
        Check.due("1 after init: run(5)", m.run(5), 2);
        Check.due("1 SWITCH set before init: AC", m.look(1), 01234);
    }

    private static void promise1Cap() {
        int[][] capsAndBytes = {
            {MIN, 0}, {-1, 0}, {0, 0}, {1, 1}, {2, 2}, {7, 7}, {99, 99}, {100, 100}, {101, 100}, {200, 100}, {MAX, 100}
        };
        for (int[] row : capsAndBytes) {
            Machine m = new Machine(row[0]);
            m.init();
            m.words(0, 06044, 05000);
            String cap = "1 cap " + row[0];
            Check.due(cap + ": run(500)", m.run(500), 2 * row[1]);
            Check.due(cap + ": printed(-1)", m.printed(-1), row[1]);
            Check.due(cap + ": step()", m.step(), 4);
            Check.due(cap + ": printed past the end", m.printed(row[1]), NONE);
        }
    }

    private static void promise2() {
        Machine m = Machine.with(2, 05321, 1, 01357);
        m.switches(04321);
        m.words(0200, 06044, 06001, 07402);
        m.start(0200);
        m.key(65);
        Check.due("2 run up: run(2)", m.run(2), 2);
        Check.due("2 run up: conditions", m.look(8), Machine.ION + Machine.DELAY + Machine.KEYBOARD + Machine.PRINTER);
        Check.due("2 run up: step()", m.step(), 0);
        Check.due("2 run up: conditions", m.look(8), Machine.ION + Machine.HALTED + Machine.KEYBOARD + Machine.PRINTER);
        m.init();
        allZero("2 init", m);
        Check.due("2 the core stays", m.examine(0201), 06001);
        Check.due("2 the core stays", m.examine(07611), 05321);
        m.words(0, 07604, 06044, 06044, 06044);
        Check.due("2 CAP bytes again: run(10)", m.run(10), 3);
        Check.due("2 SWITCH stays: AC", m.look(1), 04321);
        Check.due("2 CAP bytes again: printed(-1)", m.printed(-1), 2);
        Check.due("2 CAP bytes again: printed(1)", m.printed(1), 04321 & 0377);
        Check.due("2 full: step number", m.look(7), 37);
        m.init();
        allZero("2 init when full", m);
        Check.due("2 init when full: step()", m.step(), 0);
    }

    private static void promise2InTheMiddle() {
        Machine m = Machine.at(0300, 06001, 01305);
        m.step();
        m.key(7);
        m.init();
        allZero("2 with DELAY", m);
        m.start(0301);
        m.microStep();
        m.microStep();
        m.microStep();
        Check.due("2 in the middle: step number", m.look(7), 9);
        m.init();
        allZero("2 in the middle", m);
        Check.due("2 in the middle: start", m.start(0301), true);
        m.init();
        m.init();
        allZero("2 twice", m);
    }

    private static void promise3() {
        Machine m = new Machine(0);
        int[][] rows = {
            {0, 1, 1}, {1, 07777, 07777}, {2, 010000, 0}, {3, 012345, 02345}, {4, -1, 07777}, {5, MIN, 0},
            {6, MAX, 07777}, {4094, 04000, 04000}, {4095, 03777, 03777}, {0, 0, 0}, {0, 05555, 05555}
        };
        for (int[] row : rows) {
            String call = "3 deposit(" + row[0] + ", " + row[1] + ")";
            Check.due(call, m.deposit(row[0], row[1]), true);
            Check.due(call + ": the core", m.examine(row[0]), row[2]);
        }
        Check.due("3 the neighbours stay", m.examine(1), 07777);
        Check.due("3 the neighbours stay", m.examine(4093), 0);
        for (int address : new int[] {-1, 4096, 4097, -4096, 8192, MIN, MAX}) {
            Check.due("3 deposit(" + address + ", 01111)", m.deposit(address, 01111), false);
        }
        Check.due("3 refused changes nothing", m.examine(0), 05555);
        Check.due("3 refused changes nothing", m.examine(1), 07777);
        Check.due("3 refused changes nothing", m.examine(4095), 03777);
        allZero("3 only the core changes", m);
    }

    private static void promise4() {
        Machine m = new Machine(0);
        m.deposit(0, 01234);
        m.deposit(4095, 04321);
        Check.due("4 examine(0)", m.examine(0), 01234);
        Check.due("4 examine(0) again", m.examine(0), 01234);
        Check.due("4 examine(1)", m.examine(1), 0);
        Check.due("4 examine(4094)", m.examine(4094), 0);
        Check.due("4 examine(4095)", m.examine(4095), 04321);
        for (int address : new int[] {-1, 4096, -4096, 8191, MIN, MAX}) {
            Check.due("4 examine(" + address + ")", m.examine(address), NONE);
        }
    }

    private static void promise5() {
        long words = 01111_2222_3333_4444_5555L;
        for (int n = 1; n <= 5; n++) {
            Machine m = new Machine(0);
            Check.due("5 load(0400, " + n + ")", m.load(0400, n, words), true);
            for (int i = 0; i < n; i++) {
                Check.due("5 load(0400, " + n + "): word " + i, m.examine(0400 + i), 01111 * (5 - n + i + 1));
            }
            Check.due("5 nothing before", m.examine(0377), 0);
            Check.due("5 nothing behind", m.examine(0400 + n), 0);
        }
        Machine m = new Machine(0);
        Check.due("5 higher groups are left out", m.load(0, 1, -1L << 12 | 5), true);
        Check.due("5 higher groups are left out", m.examine(0), 5);
        Check.due("5 higher groups are left out", m.examine(1), 0);
        Check.due("5 all bits", m.load(07774, 5, -1L), true);
        for (int i = 0; i < 5; i++) {
            Check.due("5 all bits, behind 07777 comes 0", m.examine(07774 + i & 07777), 07777);
        }
        Check.due("5 behind the five", m.examine(1), 0);
        Check.due("5 the bits above 60 are left out", m.load(07777, 5, 0x7000000000000001L), true);
        Check.due("5 the bits above 60 are left out", m.examine(07777), 0);
        Check.due("5 behind 07777 comes 0", m.examine(3), 1);
        Check.due("5 behind 07777 comes 0", m.examine(0), 0);
        Check.due("5 sign", m.load(0, 2, Long.MIN_VALUE | 04000_0000), true);
        Check.due("5 sign", m.examine(0), 04000);
        Check.due("5 sign", m.examine(1), 0);
        allZero("5 only the core changes", m);
    }

    private static void promise5Refused() {
        Machine m = new Machine(0);
        for (int n : new int[] {0, -1, 6, 7, 12, MIN, MAX}) {
            Check.due("5 load(0, " + n + ")", m.load(0, n, -1L), false);
        }
        for (int address : new int[] {-1, -5, 4096, 5000, MIN, MAX}) {
            Check.due("5 load(" + address + ", 3)", m.load(address, 3, -1L), false);
        }
        for (int address : new int[] {0, 1, 2, 3, 4, 5, 07777, 07776, 5000 & 07777}) {
            Check.due("5 refused changes nothing", m.examine(address), 0);
        }
    }

    private static void promise6() {
        Machine m = Machine.with(0123, 1, 0456);
        Trace t = new Trace("6", m);
        Check.due("6 start(0345)", m.start(0345), true);
        t.expect(Machine.PC, 0345, Machine.CONDITIONS, 0).same("start(0345)");
        int[][] rows = {{0, 0}, {07777, 07777}, {010000, 0}, {-1, 07777}, {012345, 02345}, {MIN, 0}, {MAX, 07777}};
        for (int[] row : rows) {
            Check.due("6 start(" + row[0] + ")", m.start(row[0]), true);
            t.expect(Machine.PC, row[1]).same("start(" + row[0] + ")");
        }
        m.words(0200, 06001, 07000, 06044);
        m.start(0200);
        m.step();
        m.key(9);
        Check.due("6 with ION and DELAY: start", m.start(0201), true);
        Check.due("6 ION, DELAY and FLAG stay", m.look(8), Machine.ION + Machine.DELAY + Machine.KEYBOARD);
    }

    private static void promise6Refused() {
        Machine m = new Machine(0);
        Check.due("6 no microcode: start(0200)", m.start(0200), false);
        Check.due("6 no microcode: PC", m.look(0), 0);
        m.init();
        m.words(0200, 07402, 06044);
        Check.due("6 start(0200)", m.start(0200), true);
        int answer = m.microStep();
        for (int i = 0; i < 10 && answer == 0; i++) {
            Trace t = new Trace("6 in the middle", m);
            Check.due("6 in the middle: start(0100)", m.start(0100), false);
            t.same("start(0100)");
            answer = m.microStep();
        }
        Check.due("6 at the end: conditions", m.look(8), Machine.HALTED);
        Check.due("6 HALTED ends: start(0201)", m.start(0201), true);
        Check.due("6 HALTED ends: conditions", m.look(8), 0);
        Check.due("6 output full: step()", m.step(), 4);
        Trace full = new Trace("6 output full", m);
        Check.due("6 output full: start(0)", m.start(0), false);
        full.same("start(0)");
    }

    private static void promise7() {
        int[][] rows = {{0, 0}, {1, 1}, {07777, 07777}, {010000, 0}, {012345, 02345}, {-1, 07777}, {MIN, 0}, {MAX, 07777}};
        for (int[] row : rows) {
            Machine m = Machine.at(0, 07604);
            Trace t = new Trace("7", m);
            m.switches(02525);
            m.switches(row[0]);
            t.same("switches changes nothing that look tells");
            m.step();
            Check.due("7 switches(" + row[0] + "): AC", m.look(1), row[1]);
        }
        Machine m = Machine.at(0, 07604);
        m.step();
        Check.due("7 SWITCH is at first 0", m.look(1), 0);
    }

    private static void promise8() {
        int[][] rows = {{0, 0}, {65, 65}, {255, 255}, {256, 0}, {321, 65}, {-1, 255}, {-256, 0}, {MIN, 0}, {MAX, 255}};
        for (int[] row : rows) {
            Machine m = Machine.with(0123, 1, 0456);
            m.key(0252);
            Trace t = new Trace("8", m);
            m.key(row[0]);
            t.expect(Machine.BUFFER, row[1]).same("key(" + row[0] + ")");
            Check.due("8 key(" + row[0] + "): FLAG", m.look(8), Machine.HALTED + Machine.KEYBOARD);
        }
        Machine m = Machine.at(0, 07000);
        m.microStep();
        m.key(5);
        Check.due("8 in the middle: BUFFER", m.look(9), 5);
        Check.due("8 in the middle: FLAG", m.look(8), Machine.KEYBOARD);
        Check.due("8 in the middle: step number", m.look(7), 1);
    }

    private static void promise9() {
        Machine m = new Machine(1);
        new Trace("9 no microcode", m).stays(3).stays(3);
        m.init();
        m.words(0, 07001, 06044, 06044, 07402);
        Trace t = new Trace("9", m);
        t.to(1, Machine.PC, 1).to(20, Machine.MB, 07001, Machine.IR, 07001).to(21).to(22).to(23).to(0, Machine.AC, 1);
        Check.due("9 step()", m.step(), 0);
        Check.due("9 step()", m.step(), 4);
        new Trace("9 output full", m).stays(4).stays(4);
        Check.due("9 output full: printed(-1)", m.printed(-1), 1);
        m.key(3);
        new Trace("9 output full and a key", m).stays(4);
        m.init();
        m.start(3);
        m.key(3);
        Check.due("9 step()", m.step(), 0);
        new Trace("9 halted", m).stays(2).stays(2);
        m.start(0);
        new Trace("9 halted no more", m).to(1, Machine.PC, 1, Machine.MA, 0);
    }

    private static void promise10() {
        Machine m = new Machine(1);
        Check.due("10 no microcode: step()", m.step(), 3);
        m.init();
        m.words(0200, 01410, 06044, 06044, 07402);
        m.words(010, 0277);
        m.words(0300, 0123);
        m.start(0200);
        Check.due("10 step()", m.step(), 0);
        Check.due("10 step(): AC", m.look(1), 0123);
        Check.due("10 the longest instruction: count", m.look(10), 8);
        m.microStep();
        m.microStep();
        Check.due("10 from the middle: step()", m.step(), 0);
        Check.due("10 from the middle: PC", m.look(0), 0202);
        Check.due("10 from the middle: step number", m.look(7), 0);
        Check.due("10 from the middle: count", m.look(10), 13);
        Check.due("10 output full: step()", m.step(), 4);
        Check.due("10 output full: step number", m.look(7), 37);
        Check.due("10 output full: count", m.look(10), 17);
        new Trace("10 output full again", m).stays(4);
        Check.due("10 output full again: step()", m.step(), 4);
        Check.due("10 output full again: count", m.look(10), 17);
        m.init();
        m.start(0203);
        Check.due("10 the halt itself: step()", m.step(), 0);
        Check.due("10 halted: step()", m.step(), 2);
        Check.due("10 halted: count", m.look(10), 6);
        m.words(0, 0, 07000);
        m.words(0204, 06001, 07000);
        m.start(0204);
        m.key(1);
        m.step();
        m.step();
        Check.due("10 an interrupt is a step: step()", m.step(), 0);
        Check.due("10 an interrupt is a step: PC", m.look(0), 1);
        Check.due("10 an interrupt is a step: core", m.examine(0), 0206);
    }

    private static void promise11() {
        Machine m = Machine.at(0200, 07001, 05200);
        for (int n : new int[] {-1, 501, 502, MIN, MAX}) {
            Trace t = new Trace("11", m);
            Check.due("11 run(" + n + ")", m.run(n), NONE);
            t.same("run(" + n + ")");
        }
        Check.due("11 run(0)", m.run(0), 0);
        Check.due("11 run(0): count", m.look(10), 0);
        Check.due("11 run(1)", m.run(1), 1);
        Check.due("11 run(1): AC", m.look(1), 1);
        Check.due("11 run(1): PC", m.look(0), 0201);
        Check.due("11 run(499)", m.run(499), 499);
        Check.due("11 run(499): AC", m.look(1), 250);
        Check.due("11 run(500)", m.run(500), 500);
        Check.due("11 run(500): AC", m.look(1), 500);
        m.microStep();
        Check.due("11 from the middle: run(0)", m.run(0), 0);
        Check.due("11 from the middle: step number", m.look(7), 1);
        Check.due("11 from the middle: run(2)", m.run(2), 2);
        Check.due("11 from the middle: AC", m.look(1), 501);
        Check.due("11 from the middle: PC", m.look(0), 0200);
    }

    private static void promise11Ends() {
        Machine m = new Machine(2);
        Check.due("11 no microcode: run(0)", m.run(0), 0);
        Check.due("11 no microcode: run(500)", m.run(500), 0);
        m.init();
        m.words(0, 07001, 07001, 07402, 07001);
        Check.due("11 to the halt: run(500)", m.run(500), 3);
        Check.due("11 to the halt: AC", m.look(1), 2);
        Check.due("11 halted: run(500)", m.run(500), 0);
        Check.due("11 halted: AC", m.look(1), 2);
        m.start(2);
        Check.due("11 just the halt: run(1)", m.run(1), 1);
        m.words(4, 06044, 06044, 07001, 06046);
        m.start(4);
        Check.due("11 to output full: run(10)", m.run(10), 3);
        Check.due("11 to output full: PC", m.look(0), 010);
        Check.due("11 to output full: step number", m.look(7), 37);
        Check.due("11 to output full: the FLAG has ended", m.look(8), 0);
        Check.due("11 output full: run(10)", m.run(10), 0);
    }

    private static void promise12() {
        Machine m = Machine.with(04567, 1, 01357);
        m.words(0200, 06001, 01233);
        m.words(0233, 01111);
        m.start(0200);
        m.step();
        m.key(0142);
        Check.due("12 ION, DELAY, the keyboard", m.look(8), 1 + 2 + 8);
        m.microStep();
        m.microStep();
        m.microStep();
        m.microStep();
        int[] want = {0202, 04567, 1, 01357, 0233, 01111, 01233, 17, 1 + 8, 0142};
        for (int which = 0; which < want.length; which++) {
            Check.due("12 look(" + which + ")", m.look(which), want[which]);
        }
        for (int which : new int[] {-1, -2, 11, 12, 100, MIN, MAX}) {
            Trace t = new Trace("12", m);
            Check.due("12 look(" + which + ")", m.look(which), NONE);
            t.same("look(" + which + ")");
        }
        Machine p = Machine.at(0, 06044, 07402);
        p.step();
        Check.due("12 the printer's FLAG", p.look(8), 16);
        p.step();
        Check.due("12 HALTED and the printer's FLAG", p.look(8), 4 + 16);
        p.key(1);
        Check.due("12 HALTED and both FLAGs", p.look(8), 4 + 8 + 16);
    }

    private static void promise12Count() {
        Machine m = new Machine(0);
        m.microStep();
        m.step();
        Check.due("12 no microcode: count", m.look(10), 0);
        m.init();
        m.words(0, 07000, 07402);
        for (int i = 1; i <= 6; i++) {
            m.microStep();
            Check.due("12 count", m.look(10), i);
        }
        m.step();
        Check.due("12 the halt: count", m.look(10), 12);
        m.microStep();
        m.step();
        m.run(10);
        Check.due("12 halted: count", m.look(10), 12);
        m.start(0);
        m.key(1);
        m.switches(1);
        m.deposit(0100, 1);
        Check.due("12 other calls: count", m.look(10), 12);
        m.init();
        Check.due("12 since init: count", m.look(10), 0);
        m.words(0, 06044);
        m.start(0);
        m.run(10);
        Check.due("12 output full: count", m.look(10), 4);
        m.run(10);
        m.microStep();
        Check.due("12 output full: count", m.look(10), 4);
        m.init();
        m.words(0, 05000);
        for (int i = 0; i < 200; i++) {
            m.run(500);
        }
        Check.due("12 many: count", m.look(10), 400000);
    }

    private static void promise13() {
        Machine m = new Machine(3);
        Check.due("13 before init: printed(-1)", m.printed(-1), 0);
        m.init();
        m.words(0, 07604, 06044, 05000);
        int[] words = {07501, 0, 0377};
        for (int i = 0; i < words.length; i++) {
            m.switches(words[i]);
            Check.due("13 run(3)", m.run(3), 3);
            Check.due("13 printed(-1)", m.printed(-1), i + 1);
            Check.due("13 printed(" + i + ")", m.printed(i), words[i] & 0377);
            Check.due("13 printed(" + (i + 1) + ")", m.printed(i + 1), NONE);
        }
        for (int i : new int[] {-2, -3, 3, 4, 100, MIN, MAX}) {
            Check.due("13 printed(" + i + ")", m.printed(i), NONE);
        }
        m.switches(0222);
        Check.due("13 full: run(3)", m.run(3), 1);
        Check.due("13 full: printed(-1)", m.printed(-1), 3);
        Check.due("13 full: printed(0)", m.printed(0), 0101);
        Check.due("13 full: printed(2)", m.printed(2), 0377);
        m.init();
        for (int i = 0; i < 3; i++) {
            Check.due("13 after init: printed(" + i + ")", m.printed(i), NONE);
        }
    }
}
