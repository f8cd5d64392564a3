import java.util.ArrayList;
import java.util.List;
import java.util.NoSuchElementException;

/**
 * Terms: which exception comes ahead of which, and that a refused call changes nothing. Of two
 * objects with the same past one gets refused calls too; what they do then has to be the same, so
 * that also what cannot be read (kept pulses, dark ticks, zeros, ..) is looked at.
 */
final class RefusedTest {
    private static final Class<?> NO_SUCH = NoSuchElementException.class;
    private static final Class<?> ARGUMENT = IllegalArgumentException.class;
    private static final Class<?> STATE = IllegalStateException.class;

    private interface Call {
        void on(CrossingUnit x);
    }

    private record Refused(String text, Class<?> due, Call call) {
    }

    private final List<Refused> calls = new ArrayList<>();

    public static void main(String[] args) {
        RefusedTest test = new RefusedTest();
        test.ofOneWrongThing();
        test.ofTwoWrongThings();
        for (int past = 0; past < 4; past++) {
            for (int from = 0; from < test.calls.size(); from += 50) {
                test.changeNothing(past, from, Math.min(from + 50, test.calls.size()));
            }
        }
        test.calls.clear();
        test.inThatState();
        for (int past = 1; past < 4; past++) {
            test.changeNothing(past, 0, test.calls.size());
        }
        Check.end();
    }

    private void add(String text, Class<?> due, Call call) {
        calls.add(new Refused(text, due, call));
    }

    private void ofOneWrongThing() {
        for (int bad : new int[] {-1, 4, Integer.MIN_VALUE, Integer.MAX_VALUE}) {
            add("pulse, track", NO_SUCH, x -> x.pulse(bad, 3, 1));
            add("pulse, head", NO_SUCH, x -> x.pulse(1, bad, 1));
            add("pulse, direction", ARGUMENT, x -> x.pulse(1, 3, bad == -1 ? 0 : bad));
            add("health, track", NO_SUCH, x -> x.health(bad, 0, false));
            add("health, head", NO_SUCH, x -> x.health(1, bad, false));
            add("health, head", NO_SUCH, x -> x.health(0, bad, true));
            add("ticks", ARGUMENT, x -> x.ticks(bad == 4 ? 1001 : bad));
            add("barrier", NO_SUCH, x -> x.barrier(bad, 7));
            add("barrier, position", ARGUMENT, x -> x.barrier(0, bad == 4 ? 101 : bad));
            add("barrier, position", ARGUMENT, x -> x.barrier(1, bad == 4 ? 101 : bad));
            add("current", NO_SUCH, x -> x.current(bad, true));
            add("current", NO_SUCH, x -> x.current(bad, false));
            add("order", NO_SUCH, x -> x.order(bad));
            add("cancel", NO_SUCH, x -> x.cancel(bad));
            add("ask, track", NO_SUCH, x -> x.ask(bad, 1, 5));
            add("ask, section", NO_SUCH, x -> x.ask(0, bad, 5));
            add("ask, who", NO_SUCH, x -> x.ask(0, 1, bad > 0 ? 0 : bad));
            add("confirm, track", NO_SUCH, x -> x.confirm(bad, 1, 5));
            add("confirm, section", NO_SUCH, x -> x.confirm(0, bad, 5));
            add("confirm, who", NO_SUCH, x -> x.confirm(0, 1, bad > 0 ? 0 : bad));
            add("section, track", NO_SUCH, x -> x.section(bad, 1, 0));
            add("section, section", NO_SUCH, x -> x.section(1, bad, 0));
            add("section, what", ARGUMENT, x -> x.section(0, 1, bad));
            add("earliest", NO_SUCH, x -> x.earliest(bad));
            add("about", ARGUMENT, x -> x.about(bad == 4 ? 11 : bad));
            add("event", NO_SUCH, x -> x.event(bad == 4 ? x.about(10) : bad, 0));
        }
    }

    /** No such thing goes ahead of a wrong argument, this ahead of a wrong state. */
    private void ofTwoWrongThings() {
        for (int bad : new int[] {-1, 4}) {
            add("pulse, track and direction", NO_SUCH, x -> x.pulse(bad, 0, 0));
            add("pulse, head and direction", NO_SUCH, x -> x.pulse(0, bad, 2));
            add("pulse, all three", NO_SUCH, x -> x.pulse(bad, bad, -2));
            add("health, both", NO_SUCH, x -> x.health(bad, bad, false));
            add("barrier, both", NO_SUCH, x -> x.barrier(bad, -1));
            add("barrier, both", NO_SUCH, x -> x.barrier(bad, 101));
            add("ask, track and who", NO_SUCH, x -> x.ask(bad, 0, 0));
            add("ask, section and who", NO_SUCH, x -> x.ask(0, bad, 0));
            add("confirm, track and who", NO_SUCH, x -> x.confirm(bad, 0, 0));
            add("confirm, section and who", NO_SUCH, x -> x.confirm(0, bad, 0));
            add("section, track and what", NO_SUCH, x -> x.section(bad, 0, -1));
            add("section, section and what", NO_SUCH, x -> x.section(0, bad, 4));
            add("event, both", NO_SUCH, x -> x.event(bad == 4 ? x.about(10) : bad, 3));
            add("event, both", NO_SUCH, x -> x.event(bad == 4 ? x.about(10) : bad, -1));
        }
        add("ask, who and not disturbed", NO_SUCH, x -> x.ask(1, 0, 0));
        add("ask, who and not disturbed", NO_SUCH, x -> x.ask(1, 0, Integer.MIN_VALUE));
        add("confirm, who and nobody", NO_SUCH, x -> x.confirm(1, 0, 0));
        add("confirm, who and nobody", NO_SUCH, x -> x.confirm(1, 0, -1));
        add("ask, not disturbed", STATE, x -> x.ask(1, 0, 1));
        add("confirm, nobody", STATE, x -> x.confirm(1, 0, 1));
    }

    /** Head 0 of track 0 has a pulse that is kept, its section 1 is asked for by 3, 0 is not. */
    private void inThatState() {
        add("pulse, kept", STATE, x -> x.pulse(0, 0, 1));
        add("pulse, kept, the other way", STATE, x -> x.pulse(0, 0, -1));
        add("pulse, kept and direction", ARGUMENT, x -> x.pulse(0, 0, 0));
        add("pulse, kept and direction", ARGUMENT, x -> x.pulse(0, 0, 2));
        add("pulse, kept and track", NO_SUCH, x -> x.pulse(2, 0, 1));
        add("confirm, who has asked", STATE, x -> x.confirm(0, 1, 3));
        add("confirm, nobody has asked", STATE, x -> x.confirm(0, 0, 3));
        add("confirm, a free section", STATE, x -> x.confirm(1, 1, 4));
        add("ask, a free section", STATE, x -> x.ask(1, 1, 3));
        add("ask, an occupied section", STATE, x -> x.ask(1, 2, 3));
        add("ask, who, of a disturbed section", NO_SUCH, x -> x.ask(0, 1, 0));
        add("event, what of one that is there", ARGUMENT, x -> x.event(0, 3));
        add("event, what of one that is there", ARGUMENT, x -> x.event(0, -1));
    }

    private static CrossingUnit withPast(int past) {
        CrossingUnit x = new CrossingUnit();
        if (past == 0) {
            return x;
        }
        x.order(1);
        x.ticks(past == 1 ? 33 : 111);
        if (past == 3) {
            x.barrier(0, 0);
            x.barrier(1, 0);
            x.ticks(6);
        }
        x.health(0, 1, false);
        x.health(0, 1, true);
        Units.pulseAndTick(x, 1, 3, -1);
        x.ask(0, 1, 3);
        Units.pulseAndTick(x, 0, 1, 1);
        x.night(true);
        x.current(1, false);
        x.current(2, false);
        x.ticks(2);
        if (past == 2) {
            x.ticks(56);
        }
        if (past == 3) {
            x.barrier(1, 1);
            x.tick();
            x.barrier(1, 0);
            x.ticks(3);
        }
        x.health(0, 3, false);
        x.pulse(0, 0, 1);
        x.pulse(0, 2, 1);
        x.pulse(1, 1, -1);
        x.barrier(0, past == 3 ? 0 : 42);
        return x;
    }

    private void changeNothing(int past, int from, int to) {
        CrossingUnit x = withPast(past);
        for (Refused refused : calls.subList(from, to)) {
            Check.refused("past " + past + ": " + refused.text(), () -> refused.call().on(x),
                    refused.due());
        }
        Check.same("past " + past + ": nothing has changed", future(x), future(withPast(past)));
    }

    private static String future(CrossingUnit x) {
        StringBuilder text = new StringBuilder(Units.all(x));
        for (int i = 0; i < 8; i++) {
            text.append(" tick ").append(x.tick());
        }
        text.append(" swept ").append(x.section(0, 1, 2));
        for (int track = 0; track < 2; track++) {
            for (int head = 0; head < 4; head++) {
                text.append(' ').append(x.health(track, head, true));
                x.pulse(track, head, 1);
            }
        }
        text.append(' ').append(x.night(false));
        for (int lamp = 0; lamp < 3; lamp++) {
            text.append(' ').append(x.current(lamp, true));
        }
        text.append(' ').append(x.barrier(0, 0)).append(' ').append(x.barrier(1, 0));
        text.append(' ').append(x.cancel(0)).append(' ').append(x.cancel(1));
        text.append(' ').append(x.ticks(9)).append(' ').append(x.ticks(90));
        return text.append(Units.all(x)).toString();
    }
}
