import java.util.function.Consumer;
import java.util.function.Supplier;

/** The boundary cases of the promises 1 to 13: a test for each sentence of the document that names one. */
public final class EdgesOfPromisesTest {
    private static final int MIN = Integer.MIN_VALUE;
    private static final int MAX = Integer.MAX_VALUE;
    private static final int NONE = MicroEight.NONE;
    private static final int[] NO_ADDRESSES = {-1, 4096, -2, 4097, -4096, 8191, 8192, 65536, MIN, MIN + 1, MAX};
    private static final int[] NO_COUNTS_OF_WORDS = {0, 6, -1, 7, 12, 256, -5, MIN, MAX};
    private static final int[] NO_COUNTS_OF_STEPS = {-1, 501, -2, 502, 1000, -500, MIN, MAX};
    private static final int[] NO_WHICH = {-1, 11, -2, 12, 16, 32, 256, MIN, MAX};

    public static void main(String[] args) {
        refusedCalls();
        machineAndCore();
        panel();
        steps();
        looks();
        Check.finish();
    }

    private static void refusedCalls() {
        Check.sentence("A call that answers false or NONE changes nothing: deposit", EdgesOfPromisesTest::refusedDeposit);
        Check.sentence("A call that answers false or NONE changes nothing: examine", EdgesOfPromisesTest::refusedExamine);
        Check.sentence("A call that answers false or NONE changes nothing: load", EdgesOfPromisesTest::refusedLoad);
        Check.sentence("A call that answers false or NONE changes nothing: start", EdgesOfPromisesTest::refusedStart);
        Check.sentence("A call that answers false or NONE changes nothing: run", EdgesOfPromisesTest::refusedRun);
        Check.sentence("A call that answers false or NONE changes nothing: look", EdgesOfPromisesTest::refusedLook);
        Check.sentence("A call that answers false or NONE changes nothing: printed", EdgesOfPromisesTest::refusedPrinted);
    }

    private static void machineAndCore() {
        Check.sentence("1: No microcode", EdgesOfPromisesTest::newHasNoMicrocode);
        Check.sentence("1: everything as said", EdgesOfPromisesTest::newIsAsSaid);
        Check.sentence("2: There is microcode", EdgesOfPromisesTest::initGivesMicrocode);
        Check.sentence("2: become as at first, in every state", EdgesOfPromisesTest::initInEveryState);
        Check.sentence("2: the step number become as at first", EdgesOfPromisesTest::initInTheMiddle);
        Check.sentence("2: nothing is PRINTED", EdgesOfPromisesTest::initWhenFull);
        Check.sentence("2: the core and SWITCH stay", EdgesOfPromisesTest::initLeavesCoreAndSwitch);
        Check.sentence("3: word & 07777 goes into the core", EdgesOfPromisesTest::depositOfTooLargeWords);
        Check.sentence("3: at address: true", EdgesOfPromisesTest::depositAtTheEnds);
        Check.sentence("3: false if there is no such address", EdgesOfPromisesTest::depositNowhere);
        Check.sentence("4: The core's word at address", EdgesOfPromisesTest::examineAtTheEnds);
        Check.sentence("4: NONE if there is no such address", EdgesOfPromisesTest::examineNowhere);
        Check.sentence("5: The n lowest groups, n 1 .. 5, the highest first", EdgesOfPromisesTest::loadOfEachCount);
        Check.sentence("5: the n lowest groups: the others are left out", EdgesOfPromisesTest::loadLeavesOutHigherGroups);
        Check.sentence("5: behind 07777 comes 0", EdgesOfPromisesTest::loadOverTheEnd);
        Check.sentence("5: false if n is another one", EdgesOfPromisesTest::loadOfOtherCounts);
        Check.sentence("5: false if there is no such address", EdgesOfPromisesTest::loadNowhere);
    }

    private static void panel() {
        Check.sentence("6: PC becomes pc & 07777", EdgesOfPromisesTest::startAtTooLargePc);
        Check.sentence("6: HALTED ends", EdgesOfPromisesTest::startEndsHalted);
        Check.sentence("6: false if there is no microcode", EdgesOfPromisesTest::startWithoutMicrocode);
        Check.sentence("6: false if the step number is not 0", EdgesOfPromisesTest::startAtEveryOtherStep);
        Check.sentence("7: SWITCH becomes v & 07777", EdgesOfPromisesTest::switchesTooLarge);
        Check.sentence("8: BUFFER becomes c & 255", EdgesOfPromisesTest::keyTooLarge);
        Check.sentence("8: its FLAG is there", EdgesOfPromisesTest::keyOverKey);
    }

    private static void steps() {
        Check.sentence("9: 0 if the step number is not 0 then, 1 if it is", EdgesOfPromisesTest::microStepTellsTheEnd);
        Check.sentence("9: 2 if it was 0 and HALTED, changing nothing", EdgesOfPromisesTest::microStepHalted);
        Check.sentence("9: 4 OUTPUT FULL, changing nothing", EdgesOfPromisesTest::microStepFull);
        Check.sentence("9: 3 if there is no microcode", EdgesOfPromisesTest::microStepWithoutMicrocode);
        Check.sentence("10: Microsteps until one does not answer 0", EdgesOfPromisesTest::stepFromEveryMicrostep);
        Check.sentence("10: 0 if that answered 1", EdgesOfPromisesTest::stepOfShortestAndLongest);
        Check.sentence("10: else what it answered", EdgesOfPromisesTest::stepThatEndsNoInstruction);
        Check.sentence("11: Up to n steps, n 0 .. 500", EdgesOfPromisesTest::runOfEachCount);
        Check.sentence("11: until one does not answer 0: how many answered 0", EdgesOfPromisesTest::runThatEndsEarly);
        Check.sentence("11: NONE for any other n", EdgesOfPromisesTest::runOfOtherCounts);
    }

    private static void looks() {
        Check.sentence("12: 1 if ION, + 2 if DELAY, + 4 if HALTED, + 8, + 16", EdgesOfPromisesTest::conditionsTogether);
        Check.sentence("12: how many microsteps were made since init()", EdgesOfPromisesTest::countSinceInit);
        Check.sentence("12: those that answer 2, 3 or 4 do not count", EdgesOfPromisesTest::countOfIdleMicrosteps);
        Check.sentence("12: NONE for any other which", EdgesOfPromisesTest::lookAtOthers);
        Check.sentence("13: How many bytes are PRINTED (i = -1)", EdgesOfPromisesTest::howManyPrinted);
        Check.sentence("13: byte i of them", EdgesOfPromisesTest::firstAndLastByte);
        Check.sentence("13: NONE if there is none such", EdgesOfPromisesTest::noSuchByte);
    }

    private static void unchangedInAllScenes(String what, Consumer<Machine> calls) {
        for (Supplier<Machine> scene : Scenes.all()) {
            Twins.unchanged(what, scene, calls);
        }
    }

    private static void refusedDeposit() {
        unchangedInAllScenes("deposit nowhere", m -> {
            for (int address : NO_ADDRESSES) {
                Check.due("deposit(" + address + ", 01111)", m.deposit(address, 01111), false);
            }
        });
    }

    private static void refusedExamine() {
        unchangedInAllScenes("examine nowhere", m -> {
            for (int address : NO_ADDRESSES) {
                Check.due("examine(" + address + ")", m.examine(address), NONE);
            }
        });
    }

    private static void refusedLoad() {
        unchangedInAllScenes("load of no such count", m -> {
            for (int n : NO_COUNTS_OF_WORDS) {
                Check.due("load(0, " + n + ")", m.load(0, n, 0x5A5A5A5A5A5A5A5AL), false);
                Check.due("load(4095, " + n + ")", m.load(4095, n, 0x5A5A5A5A5A5A5A5AL), false);
            }
        });
        unchangedInAllScenes("load nowhere", m -> {
            for (int address : NO_ADDRESSES) {
                for (int n = 1; n <= 5; n++) {
                    Check.due("load(" + address + ", " + n + ")", m.load(address, n, 0x5A5A5A5A5A5A5A5AL), false);
                }
            }
        });
    }

    private static void refusedStart() {
        Consumer<Machine> starts = m -> {
            for (int pc : new int[] {0, 1, 0200, 07777, 010000, -1}) {
                Check.due("start(" + pc + ")", m.start(pc), false);
            }
        };
        Twins.unchanged("start without microcode", Scenes::withoutMicrocode, starts);
        Twins.unchanged("start in the middle", Scenes::inTheMiddle, starts);
        Twins.unchanged("start when the output is full", Scenes::outputFull, starts);
    }

    private static void refusedRun() {
        unchangedInAllScenes("run of no such count", m -> {
            for (int n : NO_COUNTS_OF_STEPS) {
                Check.due("run(" + n + ")", m.run(n), NONE);
            }
        });
    }

    private static void refusedLook() {
        unchangedInAllScenes("look at none such", m -> {
            for (int which : NO_WHICH) {
                Check.due("look(" + which + ")", m.look(which), NONE);
            }
        });
    }

    private static void refusedPrinted() {
        unchangedInAllScenes("printed of none such", m -> {
            for (int i : new int[] {-2, Scenes.CAP, Scenes.CAP + 1, 100, MIN, MAX}) {
                Check.due("printed(" + i + ")", m.printed(i), NONE);
            }
        });
    }

    private static void newHasNoMicrocode() {
        for (int cap : new int[] {MIN, -1, 0, 1, 100, 101, MAX}) {
            Machine m = new Machine(cap);
            Check.due("cap " + cap + ": microStep()", m.microStep(), 3);
            Check.due("cap " + cap + ": step()", m.step(), 3);
            Check.due("cap " + cap + ": run(1)", m.run(1), 0);
            Check.due("cap " + cap + ": start(0)", m.start(0), false);
        }
    }

    private static void asAtFirst(String when, Machine m) {
        for (int which = 0; which <= 10; which++) {
            Check.due(when + ": look(" + which + ")", m.look(which), 0);
        }
        Check.due(when + ": printed(-1)", m.printed(-1), 0);
        for (int i = 0; i <= Scenes.CAP; i++) {
            Check.due(when + ": printed(" + i + ")", m.printed(i), NONE);
        }
    }

    private static void newIsAsSaid() {
        asAtFirst("new", new Machine(Scenes.CAP));
        Machine other = Scenes.halted();
        Machine m = new Machine(Scenes.CAP);
        asAtFirst("new behind another that has run", m);
        Check.due("its core", m.examine(0200), 0);
        Check.due("the other's core", other.examine(0200), 06044);
        m.init();
        m.deposit(0, 07604);
        m.step();
        Check.due("SWITCH is at first 0: AC", m.look(Machine.AC), 0);
    }

    private static void initGivesMicrocode() {
        Machine m = new Machine(0);
        m.init();
        Check.due("microStep()", m.microStep(), 0);
        m.init();
        Check.due("a second init(): microStep()", m.microStep(), 0);
    }

    private static void initInEveryState() {
        for (Supplier<Machine> scene : Scenes.all()) {
            Machine m = scene.get();
            m.init();
            asAtFirst("init()", m);
            m.init();
            asAtFirst("init() twice", m);
        }
    }

    /** Each microstep of the longest instructions is left by init. */
    private static void initInTheMiddle() {
        for (int instruction : new int[] {01410, 03410, 07017, 07607, 07521, 06036, 06046, 06001}) {
            for (int microsteps = 1; microsteps <= 8; microsteps++) {
                Machine m = Machine.with(03526, 1, 01357);
                m.key(0245);
                m.deposit(0400, instruction);
                m.start(0400);
                for (int i = 0; i < microsteps; i++) {
                    m.microStep();
                }
                m.init();
                asAtFirst("0" + Integer.toOctalString(instruction) + " and " + microsteps + " microsteps, then init()", m);
                Check.due("then start(0)", m.start(0), true);
            }
        }
    }

    private static void initWhenFull() {
        Machine m = Scenes.outputFull();
        m.init();
        asAtFirst("init()", m);
        m.words(0, 07001, 06044, 05000);
        Check.due("CAP bytes again: run(500)", m.run(500), 3 * Scenes.CAP + 1);
        Check.due("CAP bytes again: printed(-1)", m.printed(-1), Scenes.CAP);
        Check.due("CAP bytes again: printed(0)", m.printed(0), 1);
        Check.due("CAP bytes again: printed(1)", m.printed(1), 2);
    }

    private static void initLeavesCoreAndSwitch() {
        for (Supplier<Machine> scene : Scenes.all()) {
            for (int from = 0; from < 4096; from += 256) {
                Machine before = scene.get();
                Machine after = scene.get();
                after.init();
                int changed = 0;
                for (int address = from; address < from + 256; address++) {
                    changed += before.examine(address) == after.examine(address) ? 0 : 1;
                }
                Check.due("init(): the words changed from " + from + " on", changed, 0);
            }
            Machine m = scene.get();
            m.init();
            m.deposit(0, 07604);
            m.step();
            Check.due("init(): SWITCH", m.look(Machine.AC), Scenes.SWITCH);
        }
    }

    private static void depositOfTooLargeWords() {
        int[][] rows = {
            {0, 0}, {07777, 07777}, {010000, 0}, {010001, 1}, {017777, 07777}, {-1, 07777}, {-2, 07776}, {-4096, 0},
            {MIN, 0}, {MIN + 1, 1}, {MAX, 07777}
        };
        for (int[] row : rows) {
            Machine m = new Machine(0);
            m.deposit(0100, 05252);
            Check.due("deposit(0100, " + row[0] + ")", m.deposit(0100, row[0]), true);
            Check.due("deposit(0100, " + row[0] + "): the core", m.examine(0100), row[1]);
        }
    }

    private static void depositAtTheEnds() {
        Machine m = new Machine(0);
        for (int address : new int[] {0, 1, 2047, 2048, 4094, 4095}) {
            Check.due("deposit(" + address + ", 5)", m.deposit(address, 5), true);
            Check.due("examine(" + address + ")", m.examine(address), 5);
        }
        Check.due("not beside", m.examine(2), 0);
        Check.due("not beside", m.examine(4093), 0);
        Machine middle = Scenes.inTheMiddle();
        Check.due("in the middle of an instruction", middle.deposit(0300, 07), true);
        Check.due("in the middle of an instruction", middle.examine(0300), 07);
    }

    private static void depositNowhere() {
        Machine m = new Machine(0);
        for (int address : NO_ADDRESSES) {
            Check.due("deposit(" + address + ", 0)", m.deposit(address, 0), false);
            Check.due("deposit(" + address + ", 5)", m.deposit(address, 5), false);
        }
    }

    private static void examineAtTheEnds() {
        Machine m = new Machine(0);
        m.deposit(0, 07777);
        m.deposit(4095, 1);
        Check.due("examine(0)", m.examine(0), 07777);
        Check.due("examine(4095)", m.examine(4095), 1);
        Check.due("examine(1)", m.examine(1), 0);
        Check.due("examine(4094)", m.examine(4094), 0);
    }

    private static void examineNowhere() {
        Machine m = new Machine(0);
        for (int address : NO_ADDRESSES) {
            Check.due("examine(" + address + ")", m.examine(address), NONE);
        }
    }

    private static void loadOfEachCount() {
        for (int n = 1; n <= 5; n++) {
            Machine m = new Machine(0);
            for (int address = 0100; address < 0110; address++) {
                m.deposit(address, 07000 + address);
            }
            Check.due("load(0101, " + n + ")", m.load(0101, n, 00001_0002_0003_0004_0005L), true);
            for (int i = 0; i < n; i++) {
                Check.due("load(0101, " + n + "): word " + i, m.examine(0101 + i), 5 - n + 1 + i);
            }
            Check.due("load(0101, " + n + "): before", m.examine(0100), 07100);
            Check.due("load(0101, " + n + "): behind", m.examine(0101 + n), 07101 + n);
        }
    }

    private static void loadLeavesOutHigherGroups() {
        for (int n = 1; n <= 5; n++) {
            Machine m = new Machine(0);
            Check.due("load(0, " + n + ", all above)", m.load(0, n, -1L << 12 * n), true);
            for (int i = 0; i < 6; i++) {
                Check.due("load(0, " + n + ", all above): word " + i, m.examine(i), 0);
            }
            Check.due("load(0, " + n + ", all)", m.load(0, n, -1L), true);
            for (int i = 0; i < 6; i++) {
                Check.due("load(0, " + n + ", all): word " + i, m.examine(i), i < n ? 07777 : 0);
            }
            Check.due("load(0, " + n + ", the greatest)", m.load(0, n, Long.MAX_VALUE), true);
            Check.due("load(0, " + n + ", the greatest): word 0", m.examine(0), 07777);
            Check.due("load(0, " + n + ", the least)", m.load(0, n, Long.MIN_VALUE), true);
            Check.due("load(0, " + n + ", the least): word 0", m.examine(0), 0);
        }
    }

    private static void loadOverTheEnd() {
        for (int address = 4090; address <= 4095; address++) {
            for (int n = 1; n <= 5; n++) {
                Machine m = new Machine(0);
                Check.due("load(" + address + ", " + n + ")", m.load(address, n, 00001_0002_0003_0004_0005L), true);
                for (int i = 0; i < 8; i++) {
                    int at = (address + i) % 4096;
                    Check.due("load(" + address + ", " + n + "): " + at, m.examine(at), i < n ? 5 - n + 1 + i : 0);
                }
            }
        }
    }

    private static void loadOfOtherCounts() {
        Machine m = new Machine(0);
        for (int n : NO_COUNTS_OF_WORDS) {
            Check.due("load(0100, " + n + ")", m.load(0100, n, -1L), false);
        }
        Check.due("the core stays", m.examine(0100), 0);
    }

    private static void loadNowhere() {
        Machine m = new Machine(0);
        for (int address : NO_ADDRESSES) {
            Check.due("load(" + address + ", 1)", m.load(address, 1, -1L), false);
            Check.due("load(" + address + ", 5)", m.load(address, 5, -1L), false);
        }
        Check.due("not even those that would be words of the core", m.examine(0), 0);
        Check.due("not even those that would be words of the core", m.examine(3), 0);
    }

    private static void startAtTooLargePc() {
        int[][] rows = {
            {0, 0}, {07777, 07777}, {010000, 0}, {010200, 0200}, {-1, 07777}, {-4096, 0}, {MIN, 0}, {MAX, 07777}
        };
        for (int[] row : rows) {
            Machine m = Machine.with(03526, 1, 01357);
            Trace t = new Trace("6", m);
            Check.due("start(" + row[0] + ")", m.start(row[0]), true);
            t.expect(Machine.PC, row[1], Machine.CONDITIONS, 0).same("start(" + row[0] + ")");
        }
    }

    private static void startEndsHalted() {
        Machine m = Scenes.halted();
        Trace t = new Trace("6", m);
        int conditions = m.look(Machine.CONDITIONS);
        Check.due("HALTED", conditions & Machine.HALTED, Machine.HALTED);
        Check.due("start(0300)", m.start(0300), true);
        t.expect(Machine.PC, 0300, Machine.CONDITIONS, conditions - Machine.HALTED).same("start(0300)");
        Check.due("start(0301) when not HALTED", m.start(0301), true);
        t.expect(Machine.PC, 0301).same("start(0301)");
        Machine delayed = Scenes.delayed();
        Trace d = new Trace("6 with DELAY", delayed);
        Check.due("start(0300) with DELAY", delayed.start(0300), true);
        d.expect(Machine.PC, 0300).same("start(0300)");
    }

    private static void startWithoutMicrocode() {
        Machine m = new Machine(0);
        Check.due("start(0200)", m.start(0200), false);
        Check.due("PC", m.look(Machine.PC), 0);
        m.init();
        Check.due("start(0200) after init()", m.start(0200), true);
        Check.due("PC", m.look(Machine.PC), 0200);
    }

    private static void startAtEveryOtherStep() {
        boolean[] seen = new boolean[42];
        for (int instruction : new int[] {
            0010, 01410, 02010, 03010, 04010, 05010, 07016, 07406, 07421, 06001, 06034, 06044
        }) {
            Machine m = Machine.at(0200, instruction);
            for (int i = 0; i < 10 && m.microStep() == 0; i++) {
                seen[m.look(Machine.STEP)] = true;
                Check.due("start(0) at step " + m.look(Machine.STEP), m.start(0), false);
            }
            Check.due("start(0) at step 0", m.start(0), true);
        }
        Machine m = Scenes.delayed();
        m.step();
        for (int i = 0; i < 2; i++) {
            m.microStep();
            seen[m.look(Machine.STEP)] = true;
            Check.due("start(0) at step " + m.look(Machine.STEP), m.start(0), false);
        }
        int steps = 0;
        for (boolean step : seen) {
            steps += step ? 1 : 0;
        }
        Check.due("how many of the steps that are not 0 were tried", steps, 35);
    }

    private static void switchesTooLarge() {
        int[][] rows = {{0, 0}, {07777, 07777}, {010000, 0}, {017777, 07777}, {-1, 07777}, {-4096, 0}, {MIN, 0}, {MAX, 07777}};
        for (int[] row : rows) {
            Machine m = Machine.at(0, 07604);
            m.switches(05252);
            m.switches(row[0]);
            m.step();
            Check.due("switches(" + row[0] + "): AC", m.look(Machine.AC), row[1]);
        }
    }

    private static void keyTooLarge() {
        int[][] rows = {{0, 0}, {255, 255}, {256, 0}, {257, 1}, {-1, 255}, {-255, 1}, {-256, 0}, {MIN, 0}, {MAX, 255}};
        for (int[] row : rows) {
            Machine m = new Machine(0);
            m.key(0252);
            m.key(row[0]);
            Check.due("key(" + row[0] + "): BUFFER", m.look(Machine.BUFFER), row[1]);
        }
    }

    /** A second key before the first is read takes its place; key works in every state. */
    private static void keyOverKey() {
        for (Supplier<Machine> scene : Scenes.all()) {
            Machine m = scene.get();
            Trace t = new Trace("8", m);
            m.key(0);
            int conditions = m.look(Machine.CONDITIONS) | Machine.KEYBOARD;
            t.expect(Machine.BUFFER, 0, Machine.CONDITIONS, conditions).same("key(0)");
            m.key(7);
            t.expect(Machine.BUFFER, 7).same("key(7)");
        }
        Machine m = new Machine(0);
        m.key(0);
        Check.due("key(0) of a new object: conditions", m.look(Machine.CONDITIONS), Machine.KEYBOARD);
    }

    private static void microStepTellsTheEnd() {
        for (int instruction = 0; instruction <= 07777; instruction++) {
            Machine m = Machine.at(0200, instruction);
            int answer = 0;
            for (int i = 0; i < 10 && answer == 0; i++) {
                answer = m.microStep();
                int due = m.look(Machine.STEP) == 0 ? 1 : 0;
                Check.due("instruction " + instruction + ": microStep()", answer, due);
            }
            Check.due("instruction " + instruction + " has an end", answer, 1);
        }
    }

    private static void microStepHalted() {
        Twins.unchanged("microStep() when HALTED", Scenes::halted, m -> {
            Check.due("microStep()", m.microStep(), 2);
            Check.due("microStep()", m.microStep(), 2);
        });
    }

    private static void microStepFull() {
        Twins.unchanged("microStep() when the output is full", Scenes::outputFull, m -> {
            Check.due("microStep()", m.microStep(), 4);
            Check.due("microStep()", m.microStep(), 4);
        });
    }

    private static void microStepWithoutMicrocode() {
        Twins.unchanged("microStep() without microcode", Scenes::withoutMicrocode, m -> {
            Check.due("microStep()", m.microStep(), 3);
            Check.due("microStep()", m.microStep(), 3);
        });
    }

    /** A step from the middle makes what is left of the instruction and no more. */
    private static void stepFromEveryMicrostep() {
        for (int instruction : new int[] {01410, 03010, 07017, 07607, 07521, 06036, 06046, 06001, 06777}) {
            Machine whole = Machine.at(0200, instruction, 07777);
            whole.step();
            for (int before = 0; before < whole.look(Machine.COUNT); before++) {
                Machine m = Machine.at(0200, instruction, 07777);
                for (int i = 0; i < before; i++) {
                    m.microStep();
                }
                Check.due("instruction " + instruction + " behind " + before + " microsteps: step()", m.step(), 0);
                for (int which = 0; which <= 10; which++) {
                    Check.due("instruction " + instruction + ": look(" + which + ")", m.look(which), whole.look(which));
                }
            }
        }
    }

    private static void stepOfShortestAndLongest() {
        Machine shortest = Machine.at(0200, 06777);
        Check.due("three microsteps: step()", shortest.step(), 0);
        Check.due("three microsteps: count", shortest.look(Machine.COUNT), 3);
        Machine longest = Machine.at(0200, 01410);
        Check.due("eight microsteps: step()", longest.step(), 0);
        Check.due("eight microsteps: count", longest.look(Machine.COUNT), 8);
        Machine halt = Machine.at(0200, 07402);
        Check.due("the halt itself: step()", halt.step(), 0);
        Machine interrupt = Scenes.delayed();
        int before = interrupt.look(Machine.COUNT);
        interrupt.start(0200);
        interrupt.deposit(0200, 06777);
        Check.due("behind DELAY: step()", interrupt.step(), 0);
        Check.due("an interrupt: step()", interrupt.step(), 0);
        Check.due("an interrupt: count", interrupt.look(Machine.COUNT), before + 3 + 3);
        Check.due("an interrupt: PC", interrupt.look(Machine.PC), 1);
    }

    private static void stepThatEndsNoInstruction() {
        Twins.unchanged("step() without microcode", Scenes::withoutMicrocode, m -> Check.due("step()", m.step(), 3));
        Twins.unchanged("step() when HALTED", Scenes::halted, m -> Check.due("step()", m.step(), 2));
        Twins.unchanged("step() when the output is full", Scenes::outputFull, m -> Check.due("step()", m.step(), 4));
        Machine m = new Machine(0);
        m.init();
        m.deposit(0, 06044);
        Check.due("the first byte too many: step()", m.step(), 4);
        Check.due("the first byte too many: count", m.look(Machine.COUNT), 4);
        Check.due("the first byte too many: step number", m.look(Machine.STEP), 37);
    }

    private static void runOfEachCount() {
        for (int n = 0; n <= 500; n++) {
            Machine m = Machine.at(0, 02100, 05000);
            Check.due("run(" + n + ")", m.run(n), n);
            Check.due("run(" + n + "): the core", m.examine(0100), (n + 1) / 2);
            Check.due("run(" + n + "): PC", m.look(Machine.PC), n % 2);
        }
        Machine middle = Machine.at(0, 07001, 05000);
        middle.microStep();
        Check.due("in the middle: run(0)", middle.run(0), 0);
        Check.due("in the middle: step number", middle.look(Machine.STEP), 1);
        Check.due("in the middle: run(1)", middle.run(1), 1);
        Check.due("in the middle: PC", middle.look(Machine.PC), 1);
        Check.due("in the middle: count", middle.look(Machine.COUNT), 6);
    }

    private static void runThatEndsEarly() {
        Twins.unchanged("run without microcode", Scenes::withoutMicrocode, m -> Check.due("run(500)", m.run(500), 0));
        Twins.unchanged("run when HALTED", Scenes::halted, m -> Check.due("run(500)", m.run(500), 0));
        Twins.unchanged("run when the output is full", Scenes::outputFull, m -> Check.due("run(500)", m.run(500), 0));
        for (int n = 0; n <= 5; n++) {
            Machine m = Machine.at(0, 07000, 07000, 07402);
            Check.due("a halt as the third: run(" + n + ")", m.run(n), Math.min(n, 3));
            Machine full = new Machine(1);
            full.init();
            full.words(0, 06044, 07000, 07000, 06044);
            Check.due("one byte too many as the fourth: run(" + n + ")", full.run(n), Math.min(n, 3));
            Check.due("one byte too many as the fourth: step number", full.look(Machine.STEP), n > 3 ? 37 : 0);
        }
    }

    private static void runOfOtherCounts() {
        Machine m = Machine.at(0, 07001, 05000);
        for (int n : NO_COUNTS_OF_STEPS) {
            Check.due("run(" + n + ")", m.run(n), NONE);
            Check.due("run(" + n + "): count", m.look(Machine.COUNT), 0);
        }
        Machine fresh = new Machine(0);
        Check.due("without microcode: run(-1)", fresh.run(-1), NONE);
        Check.due("without microcode: run(501)", fresh.run(501), NONE);
        Check.due("HALTED: run(501)", Scenes.halted().run(501), NONE);
        Check.due("output full: run(-1)", Scenes.outputFull().run(-1), NONE);
    }

    private static void conditionsTogether() {
        Check.due("halted", Scenes.halted().look(8), 1 + 4 + 8 + 16);
        Check.due("delayed", Scenes.delayed().look(8), 1 + 2 + 8 + 16);
        Check.due("in the middle", Scenes.inTheMiddle().look(8), 1 + 8 + 16);
        Check.due("without microcode", Scenes.withoutMicrocode().look(8), 8);
        Machine all = Machine.at(0200, 06044, 06001, 07402);
        all.run(3);
        Check.due("ION, HALTED and the printer's", all.look(8), 1 + 4 + 16);
        Machine none = Machine.at(0200, 07000);
        Check.due("none", none.look(8), 0);
    }

    private static void countSinceInit() {
        Machine m = Machine.at(0, 05000);
        for (int i = 1; i <= 100; i++) {
            m.microStep();
            Check.due("count", m.look(Machine.COUNT), i);
        }
        m.init();
        Check.due("after init: count", m.look(Machine.COUNT), 0);
        m.microStep();
        Check.due("after init: count", m.look(Machine.COUNT), 1);
        Machine most = Machine.at(0200, 01410, 05200);
        int due = 0;
        while (most.calls() < 511) {
            most.run(500);
            due += 250 * (8 + 4);
        }
        Check.due("the most that 512 calls make: count", most.look(Machine.COUNT), due);
    }

    private static void countOfIdleMicrosteps() {
        Machine fresh = new Machine(0);
        fresh.microStep();
        fresh.step();
        fresh.run(10);
        Check.due("answered 3: count", fresh.look(Machine.COUNT), 0);
        Machine halted = Machine.at(0, 07402);
        halted.run(10);
        halted.microStep();
        halted.step();
        Check.due("answered 2: count", halted.look(Machine.COUNT), 6);
        halted.start(0);
        halted.run(10);
        Check.due("answered 2, started again: count", halted.look(Machine.COUNT), 12);
        Machine full = new Machine(0);
        full.init();
        full.deposit(0, 06044);
        full.run(10);
        full.microStep();
        full.step();
        Check.due("answered 4: count", full.look(Machine.COUNT), 4);
    }

    private static void lookAtOthers() {
        for (Supplier<Machine> scene : Scenes.all()) {
            Machine m = scene.get();
            for (int which : NO_WHICH) {
                Check.due("look(" + which + ")", m.look(which), NONE);
            }
            Check.due("look(0)", m.look(0) >= 0, true);
            Check.due("look(10)", m.look(10) >= 0, true);
        }
    }

    private static void howManyPrinted() {
        for (int bytes = 0; bytes <= 100; bytes++) {
            Machine m = new Machine(100);
            m.init();
            m.words(0, 07001, 06044, 05000);
            Check.due("run", m.run(3 * bytes), 3 * bytes);
            Check.due("printed(-1)", m.printed(-1), bytes);
        }
        Check.due("before init(): printed(-1)", new Machine(100).printed(-1), 0);
    }

    private static void firstAndLastByte() {
        Machine m = new Machine(100);
        m.init();
        m.words(0, 07001, 06044, 05000);
        Check.due("run(300)", m.run(300), 300);
        for (int i = 0; i < 100; i++) {
            Check.due("printed(" + i + ")", m.printed(i), i + 1);
        }
        Machine bytes = new Machine(3);
        bytes.init();
        bytes.words(0, 07604, 06044, 05000);
        int[][] rows = {{0, 0}, {07777, 255}, {0400, 0}};
        for (int i = 0; i < rows.length; i++) {
            bytes.switches(rows[i][0]);
            bytes.run(3);
            Check.due("SWITCH " + rows[i][0] + ": printed(" + i + ")", bytes.printed(i), rows[i][1]);
        }
    }

    private static void noSuchByte() {
        Machine m = new Machine(3);
        m.init();
        m.words(0, 07001, 06044, 05000);
        for (int bytes = 0; bytes <= 3; bytes++) {
            for (int i : new int[] {-2, -3, bytes, bytes + 1, 100, 101, MIN, MAX}) {
                Check.due(bytes + " bytes: printed(" + i + ")", m.printed(i), NONE);
            }
            m.run(3);
        }
        m.init();
        Check.due("after init(): printed(0)", m.printed(0), NONE);
    }
}
