import java.util.List;
import java.util.function.Supplier;

/** Machines in states where as much as can be is not as at first, so that a change would be seen. */
final class Scenes {
    static final int SWITCH = 04631;
    static final int CAP = 2;

    private Scenes() {
    }

    static List<Supplier<Machine>> all() {
        return List.of(Scenes::withoutMicrocode, Scenes::halted, Scenes::delayed, Scenes::inTheMiddle, Scenes::outputFull);
    }

    /** Every call that needs no microcode has been made, and no other. */
    static Machine withoutMicrocode() {
        Machine m = new Machine(CAP);
        markCore(m);
        m.switches(SWITCH);
        m.key(0245);
        return m;
    }

    static Machine halted() {
        return run(0, 06001, 07402);
    }

    /** At step 0 with ION and DELAY. */
    static Machine delayed() {
        return run(0, 07000, 06001);
    }

    /** At step 17 of a TAD, with ION. */
    static Machine inTheMiddle() {
        Machine m = run(4, 06001, 01377);
        Check.due("in the middle: step number", m.look(Machine.STEP), 17);
        return m;
    }

    /** At step 37 with CAP bytes PRINTED. */
    static Machine outputFull() {
        Machine m = run(0, 06044, 06045);
        Check.due("output full: step number", m.look(Machine.STEP), 37);
        return m;
    }

    /** AC, LINK and MQ set and one byte PRINTED, then the two instructions and so many microsteps; a key at the end. */
    private static Machine run(int microsteps, int first, int second) {
        Machine m = Machine.with(CAP, 03526, 1, 01357);
        markCore(m);
        m.switches(SWITCH);
        m.words(0200, 06044, first, second);
        m.start(0200);
        m.run(microsteps == 0 ? 3 : 2);
        for (int i = 0; i < microsteps; i++) {
            m.microStep();
        }
        m.key(0245);
        return m;
    }

    /** Words at both ends of the core and of what a wrong address could be taken for. */
    private static void markCore(Machine m) {
        m.words(0, 05001, 05002, 05003, 05004, 05005);
        m.words(07773, 03001, 03002, 03003, 03004, 03005);
        m.words(0377, 02222);
    }
}
