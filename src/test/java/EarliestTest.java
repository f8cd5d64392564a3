/** Promise 14, and step 2 of a tick. */
final class EarliestTest {
    public static void main(String[] args) {
        countsDownToNought();
        eachEndOfEachTrack();
        theLesserOfTwo();
        goneWithTheSectionEmpty();
        noneWithoutAnAxleFromBeyond();
        noneIfTheSectionWasNotEmpty();
        throughInOneTick();
        behindAReset();
        wrongInputs();
        Check.end();
    }

    private static void countsDownToNought() {
        CrossingUnit x = new CrossingUnit();
        x.pulse(0, 0, 1);
        Check.same("ahead of the tick", x.earliest(0), -1);
        x.tick();
        Check.same("it comes", x.earliest(0), 214);
        x.tick();
        Check.same("one less", x.earliest(0), 213);
        Units.pulseAndTick(x, 0, 0, 1);
        Check.same("an axle more does not matter", x.earliest(0), 212);
        x.ticks(211);
        Check.same("one is left", x.earliest(0), 1);
        x.tick();
        Check.same("nought", x.earliest(0), 0);
        x.ticks(20);
        Check.same("nought at least", x.earliest(0), 0);
        Units.pulseAndTick(x, 0, 0, 1);
        Check.same("nought is a coming", x.earliest(0), 0);
        Check.same("the other track", x.earliest(1), -1);
    }

    private static void eachEndOfEachTrack() {
        for (int track = 0; track < 2; track++) {
            CrossingUnit x = new CrossingUnit();
            Units.pulseAndTick(x, track, 0, 1);
            Check.same("end 0", x.earliest(track), 214);
            Check.same("end 0, the other track", x.earliest(1 - track), -1);
            CrossingUnit y = new CrossingUnit();
            Units.pulseAndTick(y, track, 3, -1);
            Check.same("end 1", y.earliest(track), 214);
            Check.same("end 1, the other track", y.earliest(1 - track), -1);
        }
    }

    private static void theLesserOfTwo() {
        CrossingUnit x = new CrossingUnit();
        Units.pulseAndTick(x, 0, 3, -1);
        x.ticks(9);
        Units.pulseAndTick(x, 0, 0, 1);
        Check.same("end 1 is earlier", x.earliest(0), 204);
        Units.pulseAndTick(x, 0, 3, 1);
        Check.same("end 0 alone", x.earliest(0), 213);
        Units.pulseAndTick(x, 0, 3, -1);
        Check.same("end 0 is earlier", x.earliest(0), 212);
        Units.pulseAndTick(x, 0, 0, -1);
        Check.same("end 1 alone", x.earliest(0), 213);
    }

    private static void goneWithTheSectionEmpty() {
        CrossingUnit x = new CrossingUnit();
        Units.pulseAndTick(x, 0, 0, 1);
        Units.pulseAndTick(x, 0, 1, 1);
        Check.same("gone", x.earliest(0), -1);
        x.ticks(5);
        Check.same("for good", x.earliest(0), -1);
        Units.pulseAndTick(x, 0, 0, 1);
        Check.same("the next one", x.earliest(0), 214);
        x.pulse(0, 0, 1);
        x.pulse(0, 1, 1);
        x.tick();
        Check.same("one in, one out", x.earliest(0), 213);
        Units.pulseAndTick(x, 0, 0, -1);
        Check.same("gone back", x.earliest(0), -1);
    }

    private static void noneWithoutAnAxleFromBeyond() {
        int[][] pulses = {{0, -1}, {1, 1}, {1, -1}, {2, 1}, {2, -1}, {3, 1}};
        for (int[] pulse : pulses) {
            CrossingUnit x = new CrossingUnit();
            Units.pulseAndTick(x, 1, pulse[0], pulse[1]);
            Check.same("head " + pulse[0] + " by " + pulse[1], x.earliest(1), -1);
        }
    }

    private static void noneIfTheSectionWasNotEmpty() {
        CrossingUnit x = new CrossingUnit();
        Units.pulseAndTick(x, 0, 1, -1);
        Check.same("from within", x.earliest(0), -1);
        Units.pulseAndTick(x, 0, 0, 1);
        Check.same("it was 1", x.earliest(0), -1);
        Units.pulseAndTick(x, 0, 0, -1);
        Units.pulseAndTick(x, 0, 0, -1);
        Units.pulseAndTick(x, 0, 0, -1);
        Check.same("it is -1", x.section(0, 0, 1), -1);
        Units.pulseAndTick(x, 0, 0, 1);
        Check.same("it was -1", x.earliest(0), -1);
        Units.pulseAndTick(x, 0, 0, 1);
        Check.same("it was 0, though disturbed", x.earliest(0), 214);
    }

    private static void throughInOneTick() {
        CrossingUnit x = new CrossingUnit();
        x.pulse(0, 0, 1);
        x.pulse(0, 1, 1);
        x.tick();
        Check.same("the section is empty again", x.section(0, 0, 1), 0);
        Check.same("there is a coming all the same", x.earliest(0), 214);
        x.tick();
        Check.same("gone with the next tick", x.earliest(0), -1);
    }

    private static CrossingUnit resetWithAComing() {
        CrossingUnit x = new CrossingUnit();
        Units.pulseAndTick(x, 0, 0, 1);
        Units.pulseAndTick(x, 0, 0, 1);
        x.health(0, 0, false);
        x.health(0, 0, true);
        x.ask(0, 0, 1);
        Units.pulseAndTick(x, 0, 0, 1);
        Units.pulseAndTick(x, 0, 1, 1);
        Check.same("the coming", x.earliest(0), 211);
        Check.yes("reset", x.confirm(0, 0, 2));
        Check.same("a reset leaves it", x.earliest(0), 211);
        return x;
    }

    private static void behindAReset() {
        CrossingUnit gone = resetWithAComing();
        gone.tick();
        Check.same("the balance is 0 at the tick", gone.earliest(0), -1);
        CrossingUnit entered = resetWithAComing();
        Units.pulseAndTick(entered, 0, 0, 1);
        Check.same("it was 0, but there was a coming", entered.earliest(0), 210);
    }

    private static void wrongInputs() {
        CrossingUnit x = new CrossingUnit();
        for (int track : new int[] {-1, 2, Integer.MIN_VALUE, Integer.MAX_VALUE}) {
            Check.noSuch("track " + track, () -> x.earliest(track));
        }
        Check.same("nothing changed", Units.all(x), Units.all(new CrossingUnit()));
    }
}
