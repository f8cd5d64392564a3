/** Promise 11. */
final class AskTest {
    public static void main(String[] args) {
        someoneHasAsked();
        askedAnewCountsAnew();
        askedAnewForgetsEachCount();
        disturbedOnceMoreLeavesIt();
        axlesAheadOfItDoNotCount();
        aKeptPulseCountsFromThenOn();
        everySectionByItself();
        wrongInputs();
        Check.end();
    }

    private static void someoneHasAsked() {
        CrossingUnit x = new CrossingUnit();
        x.health(0, 1, false);
        x.ask(0, 1, Integer.MAX_VALUE);
        Check.same("who", x.section(0, 1, 3), Integer.MAX_VALUE);
        Check.same("not of the next section", x.section(0, 0, 3), 0);
        Check.same("disturbed still", x.section(0, 1, 0), 2);
        Check.same("no event", x.about(10), 2);
        x.ticks(100);
        Check.same("ticks leave it", x.section(0, 1, 3), Integer.MAX_VALUE);
        x.ask(0, 1, 1);
        Check.same("someone else asks anew", x.section(0, 1, 3), 1);
    }

    /** Through section 1 of track 0. */
    private static void sweep(CrossingUnit x, int direction) {
        Units.pulseAndTick(x, 0, direction == 1 ? 1 : 2, direction);
        Units.pulseAndTick(x, 0, direction == 1 ? 2 : 1, direction);
    }

    private static void askedAnewCountsAnew(int who, int first, int second) {
        CrossingUnit x = new CrossingUnit();
        x.health(0, 1, false);
        x.health(0, 1, true);
        x.ask(0, 1, 4);
        sweep(x, first);
        Check.same("swept", x.section(0, 1, 2), 1);
        x.ask(0, 1, who);
        Check.same("not since " + who + " has asked", x.section(0, 1, 2), 0);
        Check.no("so it is not reset", x.confirm(0, 1, 9));
        sweep(x, second);
        Check.same("swept anew", x.section(0, 1, 2), 1);
        Check.yes("so it is reset", x.confirm(0, 1, 9));
    }

    private static void askedAnewCountsAnew() {
        for (int who = 4; who <= 5; who++) {
            askedAnewCountsAnew(who, 1, 1);
            askedAnewCountsAnew(who, 1, -1);
            askedAnewCountsAnew(who, -1, 1);
            askedAnewCountsAnew(who, -1, -1);
        }
    }

    private static void askedAnewForgetsEachCount() {
        int[][] pulses = {{1, 1}, {2, 1}, {2, -1}, {1, -1}};
        for (int[] pulse : pulses) {
            CrossingUnit x = new CrossingUnit();
            x.health(0, 1, false);
            x.health(0, 1, true);
            x.ask(0, 1, 4);
            Units.pulseAndTick(x, 0, pulse[0], pulse[1]);
            x.ask(0, 1, 4);
            sweep(x, 1);
            Check.same("forgot head " + pulse[0] + " by " + pulse[1], x.section(0, 1, 2), 1);
        }
    }

    private static void disturbedOnceMoreLeavesIt() {
        CrossingUnit x = new CrossingUnit();
        x.health(0, 1, false);
        x.health(0, 1, true);
        x.ask(0, 1, 4);
        Units.pulseAndTick(x, 0, 2, 1);
        Check.same("a balance below 0", x.section(0, 1, 1), -1);
        Check.same("leaves who has asked", x.section(0, 1, 3), 4);
        Units.pulseAndTick(x, 0, 1, 1);
        Check.same("and what was counted", x.section(0, 1, 2), 1);
        x.health(0, 2, false);
        Check.same("an unhealthy head leaves who has asked", x.section(0, 1, 3), 4);
        Check.same("and what was counted too", x.section(0, 1, 2), 1);
    }

    private static void axlesAheadOfItDoNotCount() {
        CrossingUnit x = new CrossingUnit();
        x.health(0, 1, false);
        x.health(0, 1, true);
        Units.pulseAndTick(x, 0, 1, 1);
        x.ask(0, 1, 1);
        Units.pulseAndTick(x, 0, 2, 1);
        Check.same("it only went out", x.section(0, 1, 2), 0);
    }

    private static void aKeptPulseCountsFromThenOn() {
        CrossingUnit x = new CrossingUnit();
        x.health(0, 1, false);
        x.health(0, 1, true);
        x.pulse(0, 1, 1);
        x.ask(0, 1, 1);
        x.tick();
        Units.pulseAndTick(x, 0, 2, 1);
        Check.same("a pulse counts at its tick", x.section(0, 1, 2), 1);
    }

    private static void everySectionByItself() {
        CrossingUnit x = new CrossingUnit();
        for (int track = 0; track < 2; track++) {
            x.health(track, 1, false);
            x.health(track, 2, false);
            for (int section = 0; section < 3; section++) {
                x.ask(track, section, 10 * track + section + 1);
            }
        }
        for (int track = 0; track < 2; track++) {
            for (int section = 0; section < 3; section++) {
                Check.same("who", x.section(track, section, 3), 10 * track + section + 1);
            }
        }
    }

    private static void wrongInputs() {
        CrossingUnit x = new CrossingUnit();
        x.health(0, 0, false);
        x.ask(0, 0, 3);
        Units.pulseAndTick(x, 1, 0, 1);
        String before = Units.all(x);
        for (int track : new int[] {-1, 2, Integer.MIN_VALUE, Integer.MAX_VALUE}) {
            Check.noSuch("track " + track, () -> x.ask(track, 0, 1));
        }
        for (int section : new int[] {-1, 3, Integer.MIN_VALUE, Integer.MAX_VALUE}) {
            Check.noSuch("section " + section, () -> x.ask(0, section, 1));
        }
        for (int who : new int[] {0, -1, Integer.MIN_VALUE}) {
            Check.noSuch("who " + who, () -> x.ask(0, 0, who));
            Check.noSuch("who goes ahead of not disturbed", () -> x.ask(0, 1, who));
        }
        Check.badState("free", () -> x.ask(0, 1, 1));
        Check.badState("occupied", () -> x.ask(1, 0, 1));
        Check.same("nothing changed", Units.all(x), before);
    }
}
