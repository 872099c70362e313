import java.util.function.Consumer;
import java.util.function.Supplier;

/** Two machines made alike: what is done to the second must leave it as the first. */
final class Twins {
    private static final int CORE = 4096;
    private static final int WORDS_OF_A_PAIR = 256;
    private static final int MOST_BYTES = 5;

    private Twins() {
    }

    static void unchanged(String what, Supplier<Machine> scene, Consumer<Machine> calls) {
        registers(what, scene, calls);
        paper(what, scene, calls);
        switchWord(what, scene, calls);
        for (int from = 0; from < CORE; from += WORDS_OF_A_PAIR) {
            core(what, scene, calls, from);
        }
    }

    private static Machine after(Supplier<Machine> scene, Consumer<Machine> calls) {
        Machine m = scene.get();
        calls.accept(m);
        return m;
    }

    private static void registers(String what, Supplier<Machine> scene, Consumer<Machine> calls) {
        Machine first = scene.get();
        Machine second = after(scene, calls);
        for (int which = 0; which <= 10; which++) {
            Check.due(what + ", then look(" + which + ")", second.look(which), first.look(which));
        }
        Check.due(what + ", then microStep()", second.microStep(), first.microStep());
        Check.due(what + ", then the step number", second.look(Machine.STEP), first.look(Machine.STEP));
    }

    private static void paper(String what, Supplier<Machine> scene, Consumer<Machine> calls) {
        Machine first = scene.get();
        Machine second = after(scene, calls);
        for (int i = -1; i < MOST_BYTES; i++) {
            Check.due(what + ", then printed(" + i + ")", second.printed(i), first.printed(i));
        }
    }

    private static void switchWord(String what, Supplier<Machine> scene, Consumer<Machine> calls) {
        Machine second = after(scene, calls);
        second.init();
        second.deposit(0, 07604);
        second.step();
        Check.due(what + ", then SWITCH", second.look(Machine.AC), Scenes.SWITCH);
    }

    private static void core(String what, Supplier<Machine> scene, Consumer<Machine> calls, int from) {
        Machine first = scene.get();
        Machine second = after(scene, calls);
        int changed = 0;
        for (int address = from; address < from + WORDS_OF_A_PAIR; address++) {
            changed += first.examine(address) == second.examine(address) ? 0 : 1;
        }
        Check.due(what + ", then the words changed from " + from + " on", changed, 0);
    }
}
