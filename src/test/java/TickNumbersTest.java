/** The numbers in the steps of a tick: just ahead of each, at it, and just beyond. */
final class TickNumbersTest {
    public static void main(String[] args) {
        comingsCountFrom214ToNought();
        comingsGoAtEveryCount();
        orderIsUsedUpAboveNought();
        lampsDieAtThree();
        darkTicksHaveToBeRunning();
        fiveZerosOfEach();
        alarmAtSixtyOneStalls();
        stallGoesOnWithAnotherDirection();
        alarmGoesWithTheLeastMove();
        amberThirty();
        redEighty();
        loweringIsProvedAlready();
        downThirtyTicksRunning();
        raisingAtHundred();
        motorsNearTheirEnds();
        Check.end();
    }

    private static void comingsCountFrom214ToNought() {
        for (int track = 0; track < 2; track++) {
            for (int end = 0; end < 2; end++) {
                CrossingUnit x = new CrossingUnit();
                Check.same("none ahead of it", x.earliest(track), CrossingUnit.NONE);
                Units.pulseAndTick(x, track, 3 * end, 1 - 2 * end);
                for (int left = 214; left >= 0; left--) {
                    Check.same("ticks left at end " + end, x.earliest(track), left);
                    x.tick();
                }
                Check.same("0 at least", x.earliest(track), 0);
                x.ticks(1000);
                Check.same("0 still", x.earliest(track), 0);
                Units.pulseAndTick(x, track, 3 * end, 2 * end - 1);
                Check.same("gone with the section empty", x.earliest(track), CrossingUnit.NONE);
                Units.pulseAndTick(x, track, 3 * end, 1 - 2 * end);
                Check.same("the next one starts anew", x.earliest(track), 214);
            }
        }
    }

    private static void comingsGoAtEveryCount() {
        for (int left : new int[] {214, 213, 2, 1, 0}) {
            CrossingUnit x = new CrossingUnit();
            Units.pulseAndTick(x, 0, 0, 1);
            x.ticks(214 - left);
            Check.same("left", x.earliest(0), left);
            Units.pulseAndTick(x, 0, 1, 1);
            Check.same("gone at " + left, x.earliest(0), CrossingUnit.NONE);
        }
    }

    /** Section 1 starts so many below 0, and gets these pulses, heads and directions, in one tick. */
    private static void notUsedUp(String what, int below, int... pulses) {
        CrossingUnit x = new CrossingUnit();
        x.order(0);
        for (int i = 0; i < below; i++) {
            Units.pulseAndTick(x, 0, 2, 1);
        }
        for (int i = 0; i < pulses.length; i += 2) {
            x.pulse(0, pulses[i], pulses[i + 1]);
        }
        x.tick();
        Check.same(what, x.about(9), 1);
        for (int i = 0; i < x.about(10); i++) {
            Check.no(what + ": event 9", x.event(i, 1) == 9);
        }
    }

    private static void usedUp(String what, int balance, int... pulses) {
        CrossingUnit x = new CrossingUnit();
        x.order(1);
        x.tick();
        int events = x.about(10);
        for (int i = 0; i < pulses.length; i += 2) {
            x.pulse(1, pulses[i], pulses[i + 1]);
        }
        x.tick();
        Check.same(what, x.section(1, 1, 1), balance);
        Check.same(what + ": no order", x.about(9), 0);
        int last = x.about(10) - 1;
        Check.yes(what + ": behind what was disturbed", last > events);
        Units.event(x, last, 2, 9, 1);
    }

    private static void orderIsUsedUpAboveNought() {
        notUsedUp("from 0 to -1", 0, 2, 1);
        notUsedUp("from 0 to 0", 0, 1, 1, 2, 1);
        usedUp("from 0 to 1", 1, 1, 1);
        usedUp("from 0 to 2", 2, 1, 1, 2, -1);
        notUsedUp("from -1 to 0", 1, 1, 1);
        notUsedUp("from -1 to 1", 1, 1, 1, 2, -1);
        notUsedUp("from -2 to 0", 2, 1, 1, 2, -1);
        resetToNought();
    }

    private static void resetToNought() {
        CrossingUnit x = new CrossingUnit();
        x.order(0);
        Units.pulseAndTick(x, 0, 2, 1);
        x.ask(0, 1, 1);
        Units.pulseAndTick(x, 0, 1, 1);
        Units.pulseAndTick(x, 0, 2, 1);
        Check.same("-1 ahead of the reset", x.section(0, 1, 1), -1);
        Check.yes("reset", x.confirm(0, 1, 2));
        Check.same("the order stands", x.about(9), 1);
        Units.pulseAndTick(x, 0, 1, 1);
        Check.same("it was 0 ahead of this tick", x.about(9), 0);
    }

    /** The ticks at which a lamp is watched: amber from 2 on, red lamps from 32 on by turns of 5. */
    private static int ticksTillWatched(int lamp) {
        return new int[] {1, 40, 35}[lamp];
    }

    private static void lampsDieAtThree() {
        for (int lamp = 0; lamp < 3; lamp++) {
            CrossingUnit x = new CrossingUnit();
            x.order(0);
            x.ticks(ticksTillWatched(lamp));
            x.current(lamp, false);
            int events = x.about(10);
            for (int dark = 1; dark <= 5; dark++) {
                x.tick();
                Check.same("lamp " + lamp + ", dark " + dark, x.about(8), dark < 3 ? 0 : 1 << lamp);
                Check.same("events", x.about(10), dark < 3 ? events : events + 1);
            }
            Units.event(x, events, ticksTillWatched(lamp) + 3, 7, lamp);
        }
    }

    private static void darkTicksHaveToBeRunning() {
        for (int lamp = 0; lamp < 3; lamp++) {
            CrossingUnit x = new CrossingUnit();
            x.order(0);
            x.ticks(ticksTillWatched(lamp));
            x.current(lamp, false);
            x.ticks(2);
            x.current(lamp, true);
            x.tick();
            x.current(lamp, false);
            x.ticks(2);
            Check.same("two, and two again", x.about(8), 0);
            if (lamp > 0) {
                x.ticks(5);
            }
            x.tick();
            Check.same("the third, whenever it is lit again", x.about(8), 1 << lamp);
            x.current(lamp, true);
            x.tick();
            Check.same("one tick with current is enough", x.about(8), 0);
        }
    }

    private static void fiveZerosOfEach() {
        for (int late = 0; late < 2; late++) {
            CrossingUnit x = new CrossingUnit();
            x.barrier(1 - late, 0);
            x.ticks(20);
            Check.same("one alone", x.about(3), 0);
            x.barrier(late, 0);
            for (int zeros = 1; zeros <= 7; zeros++) {
                x.tick();
                Check.same("barrier " + late + ", zeros " + zeros, x.about(3), zeros < 5 ? 0 : 1);
            }
            x.barrier(late, 1);
            x.tick();
            Check.same("1 is not 0", x.about(3), 0);
            x.barrier(late, 0);
            x.ticks(4);
            Check.same("four anew", x.about(3), 0);
            x.tick();
            Check.same("five anew", x.about(3), 1);
        }
    }

    private static void alarmAtSixtyOneStalls() {
        for (int barrier = 0; barrier < 2; barrier++) {
            CrossingUnit x = new CrossingUnit();
            x.barrier(barrier, 99);
            x.tick();
            for (int stall = 1; stall <= 61; stall++) {
                Check.same("no alarm", x.about(4) & 0xc00, 0);
                x.tick();
                Check.same("stall", x.about(6 + barrier), stall);
                Check.same("of the other one", x.about(7 - barrier), 0);
            }
            Check.same("an alarm", x.about(4), 0x400 << barrier);
            Units.event(x, 0, 62, 6, barrier);
            x.tick();
            Check.same("the stall behind it", x.about(6 + barrier), 0);
            Check.same("the alarm behind it", x.about(4), 0x400 << barrier);
            x.ticks(1000);
            Check.same("one alarm", x.about(10), 1);
        }
    }

    private static void stallGoesOnWithAnotherDirection() {
        CrossingUnit x = Units.shut(0);
        x.cancel(0);
        x.barrier(0, 50);
        x.ticks(31);
        Check.same("raising", x.about(0), 5);
        Check.same("up", x.about(4) & 0xf0, 0xa0);
        Check.same("stall", x.about(6), 30);
        x.order(0);
        x.tick();
        Check.same("lowering", x.about(0), 3);
        Check.same("down, and 1 is down", x.about(4) & 0xf0, 0x10);
        x.ticks(29);
        Check.same("a motor was on all the time", x.about(6), 60);
        Check.same("no alarm", x.about(4) & 0xc00, 0);
        x.tick();
        Check.same("alarm", x.about(4) & 0xc00, 0x400);
    }

    private static void alarmGoesWithTheLeastMove() {
        for (int position : new int[] {49, 51}) {
            CrossingUnit x = new CrossingUnit();
            x.barrier(1, 50);
            x.ticks(62);
            x.barrier(1, 50);
            Check.same("the same one", x.tick(), 0x800);
            x.barrier(1, position);
            x.barrier(1, 50);
            Check.same("the same one at the tick", x.tick(), 0x800);
            x.barrier(1, position);
            Check.same("another one", x.tick(), 0x080);
            Check.same("no stall", x.about(7), 0);
            x.tick();
            Check.same("a stall", x.about(7), 1);
            Check.same("no event", x.about(10), 1);
        }
    }

    private static void road(CrossingUnit x, String when, int step, int age) {
        Check.same(when + ": step", x.about(0), step);
        Check.same(when + ": age", x.about(1), age);
    }

    private static void amberThirty() {
        CrossingUnit x = new CrossingUnit();
        x.order(0);
        for (int age = 0; age < 30; age++) {
            x.tick();
            road(x, "amber", 1, age);
        }
        x.tick();
        road(x, "red", 2, 0);
        Units.event(x, 2, 31, 3, 2);
        x.tick();
        road(x, "red", 2, 1);
    }

    private static void redEighty() {
        CrossingUnit x = new CrossingUnit();
        x.order(0);
        x.ticks(30);
        for (int age = 0; age < 80; age++) {
            x.tick();
            road(x, "red", 2, age);
        }
        x.tick();
        road(x, "lowering", 3, 0);
        Units.event(x, 3, 111, 3, 3);
        x.tick();
        road(x, "lowering", 3, 1);
    }

    private static void loweringIsProvedAlready() {
        CrossingUnit x = new CrossingUnit();
        x.order(0);
        x.tick();
        x.barrier(0, 0);
        x.barrier(1, 0);
        x.ticks(109);
        road(x, "red", 2, 79);
        Check.same("proved", x.about(3), 1);
        x.tick();
        road(x, "one step in a tick", 3, 0);
        Check.same("no motor", x.about(4) & 0xf0, 0);
        x.tick();
        road(x, "down", 4, 0);
    }

    private static void downThirtyTicksRunning() {
        for (int quiet = 1; quiet < 30; quiet += 7) {
            CrossingUnit x = Units.shut(0);
            x.cancel(0);
            x.ticks(quiet);
            Check.same("quiet", x.about(2), quiet);
            x.order(1);
            x.tick();
            Check.same("a demand", x.about(2), 0);
            x.cancel(1);
            x.ticks(29);
            Check.same("quiet anew", x.about(2), 29);
            road(x, "down", 4, quiet + 30);
            x.tick();
            road(x, "raising", 5, 0);
            Check.same("of step 4 alone", x.about(2), 0);
            x.tick();
            road(x, "raising", 5, 1);
        }
    }

    private static void raisingAtHundred() {
        for (int late = 0; late < 2; late++) {
            CrossingUnit x = Units.shut(0);
            x.cancel(0);
            x.barrier(1 - late, 100);
            x.barrier(late, 99);
            x.ticks(30);
            road(x, "raising", 5, 0);
            x.tick();
            road(x, "99", 5, 1);
            x.barrier(late, 100);
            road(x, "told", 5, 1);
            x.tick();
            road(x, "100", 0, 0);
            x.tick();
            road(x, "open", 0, 1);
        }
    }

    private static void motorsNearTheirEnds() {
        CrossingUnit x = Units.shut(0);
        int[] positions = {0, 1, 2, 50, 99, 100};
        for (int position : positions) {
            x.barrier(0, position);
            Check.same("down at " + position, x.tick() & 0xf0, position == 0 ? 0 : 0x10);
        }
        x.cancel(0);
        x.barrier(1, 99);
        x.ticks(30);
        for (int position : positions) {
            x.barrier(0, position);
            x.barrier(1, position == 100 ? 99 : 100);
            Check.same("raising at " + position, x.tick() & 0xf0, position == 100 ? 0x80 : 0x20);
            Check.same("raising", x.about(0), 5);
        }
        x.barrier(1, 100);
        Check.same("open", x.tick(), 0);
        for (int position : positions) {
            x.barrier(1, position);
            Check.same("open at " + position, x.tick() & 0xf0, position == 100 ? 0 : 0x80);
        }
    }
}
