/** Long mixed runs of calls, the same each time, held against the Model. */
public final class ModelTest {
    private static final int RUNS = 600;
    private static final int[] LIKELY = {
        06001, 06002, 06003, 06031, 06032, 06036, 06041, 06042, 06044, 06046, 07402, 07404, 07421, 07501, 07521
    };

    private long seed;
    private final String name;
    private final Machine machine;
    private final Model model;

    private ModelTest(int number) {
        seed = number * 0x9E3779B97F4A7C15L + 1;
        name = "run " + number;
        int cap = below(8) == 0 ? 100 + below(50) : below(6) - 1;
        machine = new Machine(cap);
        model = new Model(cap);
    }

    public static void main(String[] args) {
        for (int number = 0; number < RUNS; number++) {
            new ModelTest(number).calls();
        }
        everyOperateInstruction();
        Check.finish();
    }

    private int below(int n) {
        seed ^= seed << 13;
        seed ^= seed >>> 7;
        seed ^= seed << 17;
        return (int) Long.remainderUnsigned(seed, n);
    }

    private int word() {
        switch (below(4)) {
            case 0: return LIKELY[below(LIKELY.length)];
            case 1: return 07000 + below(512);
            default: return below(4096);
        }
    }

    private void calls() {
        if (below(10) != 0) {
            machine.init();
            model.init();
        }
        int first = below(4096);
        for (int i = 0; i < 20; i++) {
            load((first + 5 * i) % 4096, 5);
        }
        load(0, 5);
        load(010, 4);
        start(first);
        while (machine.calls() < 440) {
            call();
        }
        compare("at the end");
        for (int i = 0; i < 10; i++) {
            int address = below(4096);
            Check.due(name + ": examine", machine.examine(address), model.core[address]);
        }
    }

    private void call() {
        switch (below(16)) {
            case 0 -> key();
            case 1 -> {
                int v = below(100000) - 50000;
                machine.switches(v);
                model.switchWord = v & 07777;
            }
            case 2 -> load(model.pc, 1 + below(5));
            case 3 -> start(below(3) == 0 ? below(4096) : model.pc);
            case 4 -> {
                int n = below(10) == 0 ? 500 : below(20);
                Check.due(name + ": run", machine.run(n), model.run(n));
            }
            case 5 -> paper();
            case 6 -> Check.due(name + ": the core at MA", machine.examine(model.ma), model.core[model.ma]);
            case 7 -> microsteps();
            case 8 -> againAfterFull();
            default -> Check.due(name + ": step", machine.step(), model.step());
        }
        compare("then");
    }

    private void key() {
        int c = below(1000) - 500;
        machine.key(c);
        model.buffer = c & 255;
        model.keyboardFlag = true;
    }

    /** Now and then only, so that most runs come to their end whole. */
    private void againAfterFull() {
        if (model.waitsForPaper || below(20) == 0) {
            machine.init();
            model.init();
            start(below(4096));
        }
    }

    private void load(int address, int n) {
        long words = 0;
        for (int i = 0; i < n; i++) {
            int word = word();
            words = words << 12 | word;
            model.core[(address + i) % 4096] = word;
        }
        Check.due(name + ": load", machine.load(address, n, words), true);
    }

    private void start(int pc) {
        boolean due = model.microcode && !model.waitsForPaper;
        Check.due(name + ": start", machine.start(pc), due);
        if (due) {
            model.pc = pc;
            model.halted = false;
        }
    }

    private void paper() {
        int i = below(8) - 2;
        int due = i == -1 ? model.printedCount : i >= 0 && i < model.printedCount ? model.paper[i] : -1;
        Check.due(name + ": printed(" + i + ")", machine.printed(i), due);
    }

    /** A whole step made of single microsteps. */
    private void microsteps() {
        int answer = machine.microStep();
        for (int i = 0; i < 10 && answer == 0; i++) {
            Check.due(name + ": start in the middle", machine.start(0), machine.look(Machine.STEP) == 0);
            answer = machine.microStep();
        }
        Check.due(name + ": microsteps", answer == 1 ? 0 : answer, model.step());
    }

    /** Some registers after each call, all of them seldom: the calls of an object are few. */
    private void compare(String when) {
        if (when.equals("then")) {
            int which = below(11);
            Check.due(name + ": look(" + which + ")", machine.look(which), model.look(which));
            return;
        }
        for (int which = -1; which <= 11; which++) {
            Check.due(name + " " + when + ": look(" + which + ")", machine.look(which), model.look(which));
        }
    }

    /** All 1024 instructions of input, output and operate, each from four states. */
    private static void everyOperateInstruction() {
        for (int instruction = 06000; instruction <= 07777; instruction++) {
            for (int kind = 0; kind < 4; kind++) {
                ModelTest t = new ModelTest(instruction * 4 + kind);
                t.oneInstruction(instruction);
            }
        }
    }

    private void oneInstruction(int instruction) {
        machine.init();
        model.init();
        int[] words = {07300 + below(2) * 020, 01100, 07421, 01101, 06044, 07200, 01102, instruction};
        for (int i = 0; i < words.length; i++) {
            machine.deposit(i, words[i]);
            model.core[i] = words[i];
        }
        for (int i = 0100; i <= 0102; i++) {
            int value = below(4) == 0 ? 0 : below(4096);
            machine.deposit(i, value);
            model.core[i] = value;
        }
        machine.switches(05203);
        model.switchWord = 05203;
        if (below(2) == 0) {
            key();
        }
        Check.due(name + ": run", machine.run(words.length), model.run(words.length));
        compare("after 0" + Integer.toOctalString(instruction));
    }
}
