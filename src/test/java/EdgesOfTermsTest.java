/** The boundary cases of the document's Terms but for the microsteps: a test for each sentence that names one. */
public final class EdgesOfTermsTest {
    private static final int MIN = Integer.MIN_VALUE;
    private static final int MAX = Integer.MAX_VALUE;
    private static final int PC = Machine.PC;
    private static final int AC = Machine.AC;
    private static final int LINK = Machine.LINK;
    private static final int MQ = Machine.MQ;
    private static final int MA = Machine.MA;
    private static final int MB = Machine.MB;
    private static final int CONDITIONS = Machine.CONDITIONS;

    public static void main(String[] args) {
        Check.sentence("An object is used for at most 512 calls", EdgesOfTermsTest::theLastOfTheCalls);
        Check.sentence("WORDS are 0 .. 07777", EdgesOfTermsTest::leastAndGreatestWord);
        Check.sentence("sums are taken & 07777: PC in step 0", EdgesOfTermsTest::pcBehindTheLastWord);
        Check.sentence("sums are taken & 07777: MB in step 4", EdgesOfTermsTest::pointerBehindTheLastWord);
        Check.sentence("sums are taken & 07777: AC in step 17", EdgesOfTermsTest::tadAboveTheGreatestWord);
        Check.sentence("sums are taken & 07777: MB in step 10", EdgesOfTermsTest::iszAboveTheGreatestWord);
        Check.sentence("sums are taken & 07777: PC in step 18", EdgesOfTermsTest::iszSkipsBehindTheLastWord);
        Check.sentence("sums are taken & 07777: PC in step 15", EdgesOfTermsTest::jmsToTheLastWord);
        Check.sentence("sums are taken & 07777: AC in step 23", EdgesOfTermsTest::incrementAboveTheGreatestWord);
        Check.sentence("sums are taken & 07777: PC in step 26", EdgesOfTermsTest::testSkipsBehindTheLastWord);
        Check.sentence("sums are taken & 07777: PC in step 34", EdgesOfTermsTest::keyboardSkipsBehindTheLastWord);
        Check.sentence("sums are taken & 07777: PC in step 36", EdgesOfTermsTest::printerSkipsBehindTheLastWord);
        Check.sentence("THE CORE has 4096 words", EdgesOfTermsTest::everyWordOfTheCoreIsItsOwn);
        Check.sentence("THE CORE has 4096 words, at first 0", EdgesOfTermsTest::everyWordOfTheCoreIsAtFirstZero);
        Check.sentence("The registers PC, AC, MQ, MA, MB, IR are words, LINK is 0 or 1, all at first 0", EdgesOfTermsTest::registersAtFirst);
        Check.sentence("LINK is 0 or 1", EdgesOfTermsTest::linkTurnedOverTwice);
        Check.sentence("SWITCH is a word", EdgesOfTermsTest::leastAndGreatestSwitch);
        Check.sentence("FLAG are yes or no (no at first)", EdgesOfTermsTest::conditionsAtFirst);
        Check.sentence("the keyboard has a BUFFER 0 .. 255", EdgesOfTermsTest::leastAndGreatestBuffer);
        Check.sentence("PRINTED are at most CAP bytes", EdgesOfTermsTest::capBytesAndNoMore);
        Check.sentence("CAP 0 .. 100 (the nearest of these): below", EdgesOfTermsTest::capTooSmall);
        Check.sentence("CAP 0 .. 100 (the nearest of these): above", EdgesOfTermsTest::capTooLarge);
        Check.sentence("THE STEP NUMBER says which microstep is next, at first 0", EdgesOfTermsTest::stepNumberAtFirst);
        Check.sentence("but before init() there is no microcode", EdgesOfTermsTest::noMicrocodeBeforeInit);
        Check.sentence("NONE = -1: There is none", EdgesOfTermsTest::none);
        Check.finish();
    }

    private static void theLastOfTheCalls() {
        Machine m = Machine.at(0, 07001, 05000);
        int runs = 0;
        while (m.calls() < 510) {
            Check.due("call " + (m.calls() + 1) + ": run(500)", m.run(500), 500);
            runs++;
        }
        Check.due("call 511: count", m.look(Machine.COUNT), runs * 250 * 10);
        Check.due("call 512: AC", m.look(AC), runs * 250 & 07777);
        Check.due("calls made", m.calls(), 512);
    }

    private static void leastAndGreatestWord() {
        for (int word : new int[] {0, 1, 03777, 04000, 07776, 07777}) {
            Machine m = Machine.with(word, 0, word);
            m.deposit(050, word);
            Check.due("in the core", m.examine(050), word);
            Trace.fetched("word " + word, m, 00050, 2).to(8, MA, 050).to(16, MB, word).to(0);
            Trace.fetchedAt("address " + word, m, word, 07000, 20);
        }
    }

    private static void pcBehindTheLastWord() {
        Machine m = Machine.at(07776, 07000, 07000);
        m.deposit(0, 07001);
        Check.due("run(1)", m.run(1), 1);
        Check.due("PC", m.look(PC), 07777);
        Check.due("run(1)", m.run(1), 1);
        Check.due("behind 07777: PC", m.look(PC), 0);
        Check.due("run(1)", m.run(1), 1);
        Check.due("the word at 0 is done: AC", m.look(AC), 1);
    }

    private static void pointerBehindTheLastWord() {
        Machine m = Machine.with(0, 1, 0);
        m.deposit(010, 07777);
        m.deposit(0, 00123);
        Trace.fetched("pointer", m, 01410, 2).to(3, MA, 010).to(4, MB, 07777).to(5, MB, 0).core(010, 0)
            .to(9, MA, 0).to(17, MB, 0123).to(0, AC, 0123);
    }

    private static void tadAboveTheGreatestWord() {
        int[][] rows = {{07777, 0, 07777}, {07776, 1, 07777}, {07777, 1, 0}, {07777, 2, 1}, {04000, 04000, 0}, {07777, 07777, 07776}};
        for (int[] row : rows) {
            Machine m = Machine.with(row[0], 0, 0);
            m.deposit(050, row[1]);
            int link = row[0] + row[1] > 07777 ? 1 : 0;
            Trace.fetched("TAD", m, 01050, 2).to(9, MA, 050).to(17, MB, row[1]).to(0, AC, row[2], LINK, link);
        }
    }

    private static void iszAboveTheGreatestWord() {
        Machine m = Machine.with(0123, 1, 0);
        m.deposit(050, 07777);
        Trace.fetched("ISZ", m, 02050, 2).to(10, MA, 050).to(18, MB, 0).to(0, PC, 0402).core(050, 0);
    }

    private static void iszSkipsBehindTheLastWord() {
        Machine m = Machine.with(0, 0, 0);
        m.deposit(050, 07777);
        Trace.fetchedAt("ISZ at 07776", m, 07776, 02050, 2).to(10, MA, 050).to(18, MB, 0).to(0, PC, 0);
        m.deposit(050, 07777);
        Trace.fetchedAt("ISZ at 07777", m, 07777, 02050, 2).to(10, MA, 050).to(18, MB, 0).to(0, PC, 1);
    }

    private static void jmsToTheLastWord() {
        Machine m = Machine.with(0, 0, 0);
        Trace.fetchedAt("JMS", m, 07601, 04377, 2).to(12, MA, 07777).to(15, MB, 07602).to(0, PC, 0).core(07777, 07602);
    }

    private static void incrementAboveTheGreatestWord() {
        Trace.fetched("7001", Machine.with(07776, 0, 0), 07001, 20).to(21).to(22).to(23).to(0, AC, 07777);
        Trace.fetched("7001", Machine.with(07777, 0, 0), 07001, 20).to(21).to(22).to(23).to(0, AC, 0, LINK, 1);
    }

    private static void testSkipsBehindTheLastWord() {
        Machine m = Machine.with(0, 0, 0);
        Trace.fetchedAt("7410 at 07776", m, 07776, 07410, 20).to(26).to(27, PC, 0).to(0);
        Trace.fetchedAt("7410 at 07777", m, 07777, 07410, 20).to(26).to(27, PC, 1).to(0);
    }

    private static void keyboardSkipsBehindTheLastWord() {
        Machine m = Machine.with(0, 0, 0);
        m.key(1);
        Trace.fetchedAt("6031 at 07776", m, 07776, 06031, 32).to(34).to(0, PC, 0);
        Trace.fetchedAt("6031 at 07777", m, 07777, 06031, 32).to(34).to(0, PC, 1);
    }

    private static void printerSkipsBehindTheLastWord() {
        Machine m = Machine.at(0, 06044);
        m.step();
        Trace.fetchedAt("6041 at 07776", m, 07776, 06041, 32).to(36).to(0, PC, 0);
        Trace.fetchedAt("6041 at 07777", m, 07777, 06041, 32).to(36).to(0, PC, 1);
    }

    /** The machine itself fills its core from 0200 to 07777 with 1, 2 and so on: one object has too few calls for it. */
    private static void everyWordOfTheCoreIsItsOwn() {
        int words = 010000 - 0200;
        for (int from = 0200; from <= 07777; from += 400) {
            Machine m = Machine.at(0, 02020, 01020, 03410, 05000);
            m.deposit(010, 0177);
            for (int left = 4 * words; left > 0; left -= 500) {
                m.run(Math.min(500, left));
            }
            for (int address = from; address < from + 400 && address <= 07777; address++) {
                Check.due("the word at " + address, m.examine(address), address - 0177);
            }
            Check.due("the pointer", m.examine(010), 07777);
            Check.due("the counter", m.examine(020), words);
            Check.due("the program", m.examine(3), 05000);
        }
    }

    private static void everyWordOfTheCoreIsAtFirstZero() {
        for (int from = 0; from < 4096; from += 512) {
            Machine m = new Machine(0);
            for (int address = from; address < from + 512; address++) {
                Check.due("new: the word at " + address, m.examine(address), 0);
            }
        }
        Machine m = new Machine(0);
        Check.due("no word behind the last", m.examine(4096), MicroEight.NONE);
        Check.due("no word before the first", m.examine(-1), MicroEight.NONE);
    }

    private static void registersAtFirst() {
        Machine m = new Machine(5);
        for (int which = 0; which <= 6; which++) {
            Check.due("new: look(" + which + ")", m.look(which), 0);
        }
        m.init();
        for (int which = 0; which <= 6; which++) {
            Check.due("after init: look(" + which + ")", m.look(which), 0);
        }
    }

    private static void linkTurnedOverTwice() {
        Machine m = Machine.at(0, 07020, 07020, 07020, 07020);
        int[] due = {1, 0, 1, 0};
        for (int link : due) {
            m.step();
            Check.due("LINK", m.look(LINK), link);
        }
    }

    private static void leastAndGreatestSwitch() {
        int[][] rows = {{0, 0}, {07777, 07777}, {010000, 0}, {-1, 07777}, {MIN, 0}, {MAX, 07777}};
        for (int[] row : rows) {
            Machine m = Machine.at(0, 07604);
            m.switches(row[0]);
            m.step();
            Check.due("switches(" + row[0] + "): AC", m.look(AC), row[1]);
        }
    }

    private static void conditionsAtFirst() {
        Machine m = new Machine(5);
        Check.due("new: conditions", m.look(CONDITIONS), 0);
        Check.due("new: BUFFER", m.look(Machine.BUFFER), 0);
        m.init();
        Check.due("after init: conditions", m.look(CONDITIONS), 0);
        Check.due("after init: BUFFER", m.look(Machine.BUFFER), 0);
    }

    private static void leastAndGreatestBuffer() {
        int[][] rows = {{0, 0}, {255, 255}, {256, 0}, {257, 1}, {511, 255}, {-1, 255}, {-256, 0}, {MIN, 0}, {MAX, 255}};
        for (int[] row : rows) {
            Machine m = new Machine(0);
            m.key(row[0]);
            Check.due("key(" + row[0] + "): BUFFER", m.look(Machine.BUFFER), row[1]);
        }
    }

    /** Prints until it is full: how many bytes there are then must be the due ones, each of them still its own. */
    private static void fills(int cap, int due) {
        Machine m = new Machine(cap);
        m.init();
        m.words(0, 07001, 06044, 05000);
        Check.due("cap " + cap + ": run(500)", m.run(500), 3 * due + 1);
        Check.due("cap " + cap + ": step()", m.step(), 4);
        Check.due("cap " + cap + ": printed(-1)", m.printed(-1), due);
        for (int i = 0; i < due; i++) {
            Check.due("cap " + cap + ": printed(" + i + ")", m.printed(i), i + 1);
        }
        Check.due("cap " + cap + ": printed(" + due + ")", m.printed(due), MicroEight.NONE);
    }

    private static void capBytesAndNoMore() {
        for (int cap = 0; cap <= 100; cap++) {
            fills(cap, cap);
        }
    }

    private static void capTooSmall() {
        for (int cap : new int[] {-1, -2, -100, MIN + 1, MIN}) {
            fills(cap, 0);
        }
    }

    private static void capTooLarge() {
        for (int cap : new int[] {101, 102, 256, 4096, MAX - 1, MAX}) {
            fills(cap, 100);
        }
    }

    private static void stepNumberAtFirst() {
        Machine m = new Machine(5);
        Check.due("new: step number", m.look(Machine.STEP), 0);
        m.init();
        Check.due("after init: step number", m.look(Machine.STEP), 0);
        new Trace("the first microstep", m).to(1, PC, 1);
    }

    private static void noMicrocodeBeforeInit() {
        Machine m = Scenes.withoutMicrocode();
        Check.due("before init: microStep()", m.microStep(), 3);
        Check.due("before init: step()", m.step(), 3);
        Check.due("before init: start(0)", m.start(0), false);
        m.init();
        Check.due("after init: start(0)", m.start(0), true);
        Check.due("after init: microStep()", m.microStep(), 0);
        m.init();
        Check.due("after init once more: step()", m.step(), 0);
    }

    private static void none() {
        Check.due("NONE", MicroEight.NONE, -1);
        Machine m = new Machine(0);
        Check.due("examine(4096)", m.examine(4096), -1);
        Check.due("run(501)", m.run(501), -1);
        Check.due("look(11)", m.look(11), -1);
        Check.due("printed(0)", m.printed(0), -1);
    }
}
