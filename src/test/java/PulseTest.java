/** Promise 2, and step 1 of a tick. */
final class PulseTest {
    public static void main(String[] args) {
        everyHeadForward();
        everyHeadBack();
        isKeptTillTheTick();
        onePulseForEachHead();
        unhealthyAtTheTickIsGone();
        healthyAgainAheadOfTheTickCounts();
        tracksAndHeadsInOrder();
        wrongInputs();
        Check.end();
    }

    private static String balances(CrossingUnit x, int track) {
        return x.section(track, 0, 1) + " " + x.section(track, 1, 1) + " " + x.section(track, 2, 1);
    }

    private static String states(CrossingUnit x, int track) {
        return x.section(track, 0, 0) + " " + x.section(track, 1, 0) + " " + x.section(track, 2, 0);
    }

    private static void counts(int track, int head, int direction, String balances, String states) {
        CrossingUnit x = new CrossingUnit();
        Units.pulseAndTick(x, track, head, direction);
        String what = "a pulse " + track + " " + head + " " + direction;
        Check.same(what + ": balances", balances(x, track), balances);
        Check.same(what + ": states", states(x, track), states);
        Check.same(what + ": the other track", balances(x, 1 - track) + states(x, 1 - track), "0 0 00 0 0");
    }

    private static void everyHeadForward() {
        for (int track = 0; track < 2; track++) {
            counts(track, 0, 1, "1 0 0", "1 0 0");
            counts(track, 1, 1, "-1 1 0", "2 1 0");
            counts(track, 2, 1, "0 -1 1", "0 2 1");
            counts(track, 3, 1, "0 0 -1", "0 0 2");
        }
    }

    private static void everyHeadBack() {
        for (int track = 0; track < 2; track++) {
            counts(track, 0, -1, "-1 0 0", "2 0 0");
            counts(track, 1, -1, "1 -1 0", "1 2 0");
            counts(track, 2, -1, "0 1 -1", "0 1 2");
            counts(track, 3, -1, "0 0 1", "0 0 1");
        }
    }

    private static void isKeptTillTheTick() {
        CrossingUnit x = new CrossingUnit();
        x.pulse(0, 0, 1);
        Check.same("ahead of the tick", balances(x, 0), "0 0 0");
        Check.same("ticks(0) is no tick", x.ticks(0), 0);
        Check.same("behind ticks(0)", balances(x, 0), "0 0 0");
        x.tick();
        Check.same("behind the tick", balances(x, 0), "1 0 0");
        x.tick();
        Check.same("it counts once", balances(x, 0), "1 0 0");
    }

    private static void onePulseForEachHead() {
        CrossingUnit x = new CrossingUnit();
        x.pulse(0, 0, 1);
        Check.badState("the same direction", () -> x.pulse(0, 0, 1));
        Check.badState("the other direction", () -> x.pulse(0, 0, -1));
        x.pulse(1, 0, 1);
        x.pulse(0, 3, -1);
        x.tick();
        Check.same("the first pulse stays", balances(x, 0) + ", " + balances(x, 1), "1 0 1, 1 0 0");
        x.pulse(0, 0, 1);
        x.tick();
        Check.same("one in each tick", balances(x, 0), "2 0 1");
    }

    private static void unhealthyAtTheTickIsGone() {
        CrossingUnit x = new CrossingUnit();
        x.pulse(0, 0, 1);
        x.health(0, 0, false);
        Check.badState("it is kept still", () -> x.pulse(0, 0, 1));
        x.tick();
        Check.same("gone", balances(x, 0), "0 0 0");
        Check.same("no coming", x.earliest(0), -1);
        x.health(0, 0, true);
        x.tick();
        Check.same("gone for good", balances(x, 0), "0 0 0");
        x.health(0, 0, false);
        x.pulse(0, 0, 1);
        x.tick();
        x.pulse(0, 0, 1);
        Check.same("an unhealthy head takes pulses", balances(x, 0), "0 0 0");
    }

    private static void healthyAgainAheadOfTheTickCounts() {
        CrossingUnit x = new CrossingUnit();
        x.health(1, 3, false);
        x.pulse(1, 3, -1);
        x.health(1, 3, true);
        x.tick();
        Check.same("it counts", balances(x, 1), "0 0 1");
    }

    private static void tracksAndHeadsInOrder() {
        CrossingUnit x = new CrossingUnit();
        x.pulse(1, 1, 1);
        x.pulse(0, 3, 1);
        x.pulse(0, 0, -1);
        x.tick();
        Units.event(x, 0, 1, 1, 0);
        Units.event(x, 1, 1, 1, 2);
        Units.event(x, 2, 1, 1, 3);
        Units.event(x, 3, 1, 3, 1);

        CrossingUnit through = new CrossingUnit();
        through.pulse(0, 0, 1);
        through.pulse(0, 1, 1);
        through.pulse(0, 2, 1);
        through.pulse(0, 3, 1);
        through.tick();
        Check.same("an axle through all heads", states(through, 0), "0 0 0");

        CrossingUnit back = new CrossingUnit();
        back.pulse(0, 3, -1);
        back.pulse(0, 2, -1);
        back.tick();
        Check.same("head 2 counts ahead of head 3", states(back, 0), "0 1 2");
        Check.same("and its section is even", balances(back, 0), "0 1 0");
    }

    private static void wrongInputs() {
        CrossingUnit x = new CrossingUnit();
        x.pulse(0, 1, 1);
        for (int track : new int[] {-1, 2, Integer.MIN_VALUE, Integer.MAX_VALUE}) {
            Check.noSuch("track " + track, () -> x.pulse(track, 0, 1));
            Check.noSuch("track goes ahead of direction", () -> x.pulse(track, 0, 0));
        }
        for (int head : new int[] {-1, 4, Integer.MIN_VALUE, Integer.MAX_VALUE}) {
            Check.noSuch("head " + head, () -> x.pulse(0, head, 1));
            Check.noSuch("head goes ahead of direction", () -> x.pulse(1, head, 2));
        }
        for (int direction : new int[] {0, 2, -2, Integer.MIN_VALUE, Integer.MAX_VALUE}) {
            Check.badArgument("direction " + direction, () -> x.pulse(0, 0, direction));
            Check.badArgument("direction goes ahead of a kept pulse", () -> x.pulse(0, 1, direction));
        }
        x.tick();
        Check.same("only the good one counted", Units.sections(x),
                "0/0:2,-1,0,0 0/1:1,1,0,0 0/2:0,0,0,0 1/0:0,0,0,0 1/1:0,0,0,0 1/2:0,0,0,0 ");
    }
}
