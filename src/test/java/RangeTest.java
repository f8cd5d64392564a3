import java.util.NoSuchElementException;

/** Each argument that has a range: what is just inside it, at its ends, and just beyond them. */
final class RangeTest {
    private static final int[] BEYOND_TWO = {-1, 2, -2, 3, Integer.MIN_VALUE, Integer.MAX_VALUE};
    private static final int[] BEYOND_THREE = {-1, 3, -3, 4, Integer.MIN_VALUE, Integer.MAX_VALUE};
    private static final int[] BEYOND_FOUR = {-1, 4, -4, 5, Integer.MIN_VALUE, Integer.MAX_VALUE};

    private interface Call {
        void on(CrossingUnit x, int value);
    }

    public static void main(String[] args) {
        tracks();
        heads();
        sections();
        persons();
        directions();
        numbersOfTicks();
        barriersAndPositions();
        lamps();
        whats();
        events();
        Check.end();
    }

    /** Every section is disturbed, and 9 has asked for each. */
    private static CrossingUnit asked() {
        CrossingUnit x = new CrossingUnit();
        for (int track = 0; track < 2; track++) {
            x.health(track, 1, false);
            x.health(track, 3, false);
            for (int section = 0; section < 3; section++) {
                x.ask(track, section, 9);
            }
        }
        return x;
    }

    private static void accepted(String what, Call call, int... values) {
        for (int value : values) {
            try {
                call.on(asked(), value);
            } catch (RuntimeException e) {
                Check.fail(what + " " + value + " threw " + e.getClass().getName());
            }
        }
    }

    private static void refused(String what, Class<?> due, Call call, int... values) {
        for (int value : values) {
            CrossingUnit x = asked();
            Check.refused(what + " " + value, () -> call.on(x, value), due);
            Check.same(what + " " + value + " changes nothing", Units.all(x), Units.all(asked()));
        }
    }

    private static void noSuch(String what, int[] beyond, int inside, Call call) {
        for (int value = 0; value < inside; value++) {
            accepted(what, call, value);
        }
        refused(what, NoSuchElementException.class, call, beyond);
    }

    private static void tracks() {
        noSuch("pulse: track", BEYOND_TWO, 2, (x, t) -> x.pulse(t, 0, 1));
        noSuch("health: track", BEYOND_TWO, 2, (x, t) -> x.health(t, 0, true));
        noSuch("order: track", BEYOND_TWO, 2, (x, t) -> x.order(t));
        noSuch("cancel: track", BEYOND_TWO, 2, (x, t) -> x.cancel(t));
        noSuch("ask: track", BEYOND_TWO, 2, (x, t) -> x.ask(t, 0, 1));
        noSuch("confirm: track", BEYOND_TWO, 2, (x, t) -> x.confirm(t, 0, 1));
        noSuch("section: track", BEYOND_TWO, 2, (x, t) -> x.section(t, 0, 0));
        noSuch("earliest: track", BEYOND_TWO, 2, (x, t) -> x.earliest(t));
    }

    private static void heads() {
        for (int track = 0; track < 2; track++) {
            int on = track;
            noSuch("pulse: head", BEYOND_FOUR, 4, (x, h) -> x.pulse(on, h, -1));
            noSuch("health, ok: head", BEYOND_FOUR, 4, (x, h) -> x.health(on, h, true));
            noSuch("health, not ok: head", BEYOND_FOUR, 4, (x, h) -> x.health(on, h, false));
        }
    }

    private static void sections() {
        for (int track = 0; track < 2; track++) {
            int on = track;
            noSuch("ask: section", BEYOND_THREE, 3, (x, s) -> x.ask(on, s, 1));
            noSuch("confirm: section", BEYOND_THREE, 3, (x, s) -> x.confirm(on, s, 1));
            noSuch("section: section", BEYOND_THREE, 3, (x, s) -> x.section(on, s, 3));
        }
    }

    private static void persons() {
        int[] below = {0, -1, -9, Integer.MIN_VALUE};
        int[] from = {1, 2, 8, 10, Integer.MAX_VALUE};
        accepted("ask: who", (x, who) -> x.ask(0, 1, who), from);
        accepted("ask: who has asked", (x, who) -> x.ask(0, 1, who), 9);
        refused("ask: who", NoSuchElementException.class, (x, who) -> x.ask(0, 1, who), below);
        accepted("confirm: who", (x, who) -> x.confirm(0, 1, who), from);
        refused("confirm: who", NoSuchElementException.class,
                (x, who) -> x.confirm(0, 1, who), below);
        refused("confirm: who has asked", IllegalStateException.class,
                (x, who) -> x.confirm(0, 1, who), 9);
    }

    private static void directions() {
        accepted("direction", (x, way) -> x.pulse(1, 3, way), 1, -1);
        refused("direction", IllegalArgumentException.class, (x, way) -> x.pulse(1, 3, way),
                0, 2, -2, 3, Integer.MIN_VALUE, Integer.MAX_VALUE);
    }

    private static void numbersOfTicks() {
        for (int n : new int[] {0, 1, 2, 999, 1000}) {
            CrossingUnit x = new CrossingUnit();
            Check.same("ticks(" + n + ")", x.ticks(n), 0);
            Check.same("the time behind it", x.about(5), n);
        }
        refused("ticks", IllegalArgumentException.class, (x, n) -> x.ticks(n),
                -1, 1001, -1000, Integer.MIN_VALUE, Integer.MAX_VALUE);
    }

    private static void barriersAndPositions() {
        noSuch("barrier", BEYOND_TWO, 2, (x, b) -> x.barrier(b, 50));
        for (int barrier = 0; barrier < 2; barrier++) {
            int b = barrier;
            CrossingUnit x = new CrossingUnit();
            int before = 100;
            for (int position : new int[] {0, 1, 2, 50, 98, 99, 100, 0}) {
                Check.same("told " + position, x.barrier(b, position), before);
                before = position;
            }
            refused("position", IllegalArgumentException.class, (y, p) -> y.barrier(b, p),
                    -1, 101, -100, 200, Integer.MIN_VALUE, Integer.MAX_VALUE);
        }
    }

    private static void lamps() {
        noSuch("lamp on", BEYOND_THREE, 3, (x, l) -> x.current(l, true));
        noSuch("lamp off", BEYOND_THREE, 3, (x, l) -> x.current(l, false));
    }

    private static void whats() {
        accepted("section: what", (x, what) -> x.section(1, 2, what), 0, 1, 2, 3);
        refused("section: what", IllegalArgumentException.class,
                (x, what) -> x.section(1, 2, what),
                -1, 4, 5, Integer.MIN_VALUE, Integer.MAX_VALUE);
        accepted("about", (x, what) -> x.about(what), 0, 1, 2, 3, 4, 5, 6, 7, 8, 9, 10);
        refused("about", IllegalArgumentException.class, (x, what) -> x.about(what),
                -1, 11, 12, Integer.MIN_VALUE, Integer.MAX_VALUE);
        accepted("event: what", (x, what) -> x.event(0, what), 0, 1, 2);
        refused("event: what", IllegalArgumentException.class, (x, what) -> x.event(0, what),
                -1, 3, 4, Integer.MIN_VALUE, Integer.MAX_VALUE);
    }

    /** There are six events: each of the six sections was disturbed once. */
    private static void events() {
        accepted("event", (x, i) -> x.event(i, 0), 0, 1, 4, 5);
        refused("event", NoSuchElementException.class, (x, i) -> x.event(i, 0),
                -1, 6, 7, 63, 64, -64, Integer.MIN_VALUE, Integer.MAX_VALUE);
    }
}
