/** Terms: a section with a balance below 0, or above 400, becomes disturbed. */
final class BalanceTest {
    public static void main(String[] args) {
        for (int track = 0; track < 2; track++) {
            for (int section = 0; section < 3; section++) {
                belowNoughtAtTheUpperHead(track, section);
                belowNoughtAtTheLowerHead(track, section);
                backAtNoughtIsDisturbedStill(track, section);
                mostThatAnObjectCanReach(track, section);
                aboveFourHundred(track, section);
            }
        }
        countedOneByOneWithinATick();
        Check.end();
    }

    private static void of(CrossingUnit x, int track, int section, int balance, int state) {
        String what = "section " + track + "/" + section + " at " + balance;
        Check.same(what + ": balance", x.section(track, section, 1), balance);
        Check.same(what + ": state", x.section(track, section, 0), state);
    }

    /** How often this section was told as disturbed. */
    private static int disturbances(CrossingUnit x, int track, int section) {
        int seen = 0;
        for (int i = Math.max(0, x.about(10) - 64); i < x.about(10); i++) {
            if (x.event(i, 1) == 1 && x.event(i, 2) == 3 * track + section) {
                seen++;
            }
        }
        return seen;
    }

    private static void belowNoughtAtTheUpperHead(int track, int section) {
        CrossingUnit x = new CrossingUnit();
        Units.pulseAndTick(x, track, section, 1);
        of(x, track, section, 1, 1);
        Units.pulseAndTick(x, track, section + 1, 1);
        of(x, track, section, 0, 0);
        Check.same("no event", disturbances(x, track, section), 0);
        Units.pulseAndTick(x, track, section + 1, 1);
        of(x, track, section, -1, 2);
        Check.same("one event", disturbances(x, track, section), 1);
    }

    private static void belowNoughtAtTheLowerHead(int track, int section) {
        CrossingUnit x = new CrossingUnit();
        Units.pulseAndTick(x, track, section + 1, -1);
        of(x, track, section, 1, 1);
        Units.pulseAndTick(x, track, section, -1);
        of(x, track, section, 0, 0);
        Check.same("no event", disturbances(x, track, section), 0);
        Units.pulseAndTick(x, track, section, -1);
        of(x, track, section, -1, 2);
        Check.same("one event", disturbances(x, track, section), 1);
    }

    private static void backAtNoughtIsDisturbedStill(int track, int section) {
        CrossingUnit x = new CrossingUnit();
        Units.pulseAndTick(x, track, section, -1);
        Units.pulseAndTick(x, track, section, -1);
        of(x, track, section, -2, 2);
        Units.pulseAndTick(x, track, section, 1);
        Units.pulseAndTick(x, track, section, 1);
        of(x, track, section, 0, 2);
        Units.pulseAndTick(x, track, section, 1);
        of(x, track, section, 1, 2);
        x.ticks(1000);
        of(x, track, section, 1, 2);
    }

    /** Two axles come in with each tick, one at either head: three calls for two of them. */
    private static void fill(CrossingUnit x, int track, int section, int ticks) {
        for (int i = 0; i < ticks; i++) {
            x.pulse(track, section, 1);
            x.pulse(track, section + 1, -1);
            x.tick();
        }
    }

    private static void mostThatAnObjectCanReach(int track, int section) {
        CrossingUnit x = new CrossingUnit();
        fill(x, track, section, 169);
        of(x, track, section, 338, 1);
    }

    /**
     * This takes more than the 512 calls behind which the document leaves every answer free, so it
     * is no promise that it tests: it looks whether the limit is built as the document has it.
     */
    private static void aboveFourHundred(int track, int section) {
        CrossingUnit x = new CrossingUnit();
        fill(x, track, section, 199);
        Units.pulseAndTick(x, track, section, 1);
        of(x, track, section, 399, 1);
        Units.pulseAndTick(x, track, section, 1);
        of(x, track, section, 400, 1);
        Check.same("no event", disturbances(x, track, section), 0);
        Units.pulseAndTick(x, track, section + 1, -1);
        of(x, track, section, 401, 2);
        Check.same("one event", disturbances(x, track, section), 1);
        Units.pulseAndTick(x, track, section, -1);
        of(x, track, section, 400, 2);
    }

    private static void countedOneByOneWithinATick() {
        CrossingUnit forward = new CrossingUnit();
        forward.pulse(0, 2, 1);
        forward.pulse(0, 1, 1);
        forward.tick();
        of(forward, 0, 1, 0, 0);
        CrossingUnit back = new CrossingUnit();
        back.pulse(0, 2, -1);
        back.pulse(0, 1, -1);
        back.tick();
        of(back, 0, 1, 0, 2);
        CrossingUnit again = new CrossingUnit();
        Units.pulseAndTick(again, 0, 2, -1);
        again.pulse(0, 2, -1);
        again.pulse(0, 1, -1);
        again.tick();
        of(again, 0, 1, 1, 1);
    }
}
