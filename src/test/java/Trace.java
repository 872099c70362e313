/** Follows a machine microstep by microstep: what is not named as changed must have stayed. */
final class Trace {
    private static final String[] NAMES = {
        "PC", "AC", "LINK", "MQ", "MA", "MB", "IR", "the step number", "the conditions", "BUFFER", "the count"
    };

    private final String name;
    private final Machine machine;
    private final int[] want = new int[NAMES.length];

    Trace(String name, Machine machine) {
        this.name = name;
        this.machine = machine;
        for (int which = 0; which < want.length; which++) {
            want[which] = machine.look(which);
        }
    }

    /** Follows steps 0 and 1 of the instruction at 0400, which go on to the step next. */
    static Trace fetched(String name, Machine m, int instruction, int next) {
        return fetchedAt(name, m, 0400, instruction, next);
    }

    static Trace fetchedAt(String name, Machine m, int address, int instruction, int next) {
        m.deposit(address, instruction);
        m.start(address);
        return new Trace(name, m).to(1, Machine.PC, address + 1 & 07777, Machine.MA, address)
            .to(next, Machine.MB, instruction, Machine.IR, instruction);
    }

    /** One microstep goes to the step next; the changes are pairs of which and value, as look has them. */
    Trace to(int next, int... changes) {
        int from = want[Machine.STEP];
        want[Machine.STEP] = next;
        want[Machine.COUNT]++;
        expect(changes);
        Check.due(name + ", step " + from + ": microStep()", machine.microStep(), next == 0 ? 1 : 0);
        same("step " + from);
        return this;
    }

    /** A microstep that answers this and changes nothing. */
    Trace stays(int answer) {
        Check.due(name + ": microStep()", machine.microStep(), answer);
        same("a microstep that changes nothing");
        return this;
    }

    /** What the test itself has changed, so that the trace goes on from there. */
    Trace expect(int... changes) {
        for (int i = 0; i < changes.length; i += 2) {
            want[changes[i]] = changes[i + 1];
        }
        return this;
    }

    Trace same(String when) {
        for (int which = 0; which < want.length; which++) {
            Check.due(name + ", " + when + ": " + NAMES[which], machine.look(which), want[which]);
        }
        return this;
    }

    Trace core(int address, int word) {
        Check.due(name + ": examine(0" + Integer.toOctalString(address) + ")", machine.examine(address), word);
        return this;
    }
}
