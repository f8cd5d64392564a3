/** Promise 13. */
final class SectionTest {
    public static void main(String[] args) {
        states();
        sweptSinceAskedFor();
        wrongInputs();
        Check.end();
    }

    private static void of(CrossingUnit x, String when, int state, int balance, int swept, int who) {
        Check.same(when + ": state", x.section(1, 0, 0), state);
        Check.same(when + ": balance", x.section(1, 0, 1), balance);
        Check.same(when + ": swept", x.section(1, 0, 2), swept);
        Check.same(when + ": who has asked", x.section(1, 0, 3), who);
    }

    private static void states() {
        CrossingUnit x = new CrossingUnit();
        of(x, "free", 0, 0, 0, 0);
        Units.pulseAndTick(x, 1, 0, 1);
        of(x, "one axle", 1, 1, 0, 0);
        Units.pulseAndTick(x, 1, 0, 1);
        of(x, "two axles", 1, 2, 0, 0);
        Units.pulseAndTick(x, 1, 0, -1);
        Units.pulseAndTick(x, 1, 0, -1);
        of(x, "gone", 0, 0, 0, 0);
        Units.pulseAndTick(x, 1, 0, -1);
        of(x, "below 0", 2, -1, 0, 0);
        Units.pulseAndTick(x, 1, 0, 1);
        of(x, "0, but disturbed", 2, 0, 0, 0);
        Units.pulseAndTick(x, 1, 0, 1);
        of(x, "above 0, but disturbed", 2, 1, 0, 0);
    }

    private static void sweptSinceAskedFor() {
        CrossingUnit x = new CrossingUnit();
        x.health(1, 0, false);
        x.health(1, 0, true);
        Units.pulseAndTick(x, 1, 0, 1);
        Units.pulseAndTick(x, 1, 1, 1);
        of(x, "nobody has asked", 2, 0, 0, 0);
        x.ask(1, 0, 8);
        of(x, "asked", 2, 0, 0, 8);
        Units.pulseAndTick(x, 1, 0, 1);
        of(x, "half", 2, 1, 0, 8);
        Units.pulseAndTick(x, 1, 1, 1);
        of(x, "swept", 2, 0, 1, 8);
        Units.pulseAndTick(x, 1, 0, 1);
        of(x, "not any more", 2, 1, 0, 8);
        Units.pulseAndTick(x, 1, 1, 1);
        of(x, "swept again", 2, 0, 1, 8);
        x.confirm(1, 0, 9);
        of(x, "reset", 0, 0, 0, 0);
    }

    private static void wrongInputs() {
        CrossingUnit x = new CrossingUnit();
        for (int track : new int[] {-1, 2, Integer.MIN_VALUE, Integer.MAX_VALUE}) {
            Check.noSuch("track " + track, () -> x.section(track, 0, 0));
            Check.noSuch("track goes ahead of what", () -> x.section(track, 0, 4));
        }
        for (int section : new int[] {-1, 3, Integer.MIN_VALUE, Integer.MAX_VALUE}) {
            Check.noSuch("section " + section, () -> x.section(1, section, 0));
            Check.noSuch("section goes ahead of what", () -> x.section(1, section, -1));
        }
        for (int what : new int[] {-1, 4, Integer.MIN_VALUE, Integer.MAX_VALUE}) {
            Check.badArgument("what " + what, () -> x.section(0, 0, what));
        }
        Check.same("nothing changed", Units.all(x), Units.all(new CrossingUnit()));
    }
}
