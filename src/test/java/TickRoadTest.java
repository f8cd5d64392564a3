/** Promise 4: the road, its motors and proving, steps 5 to 7 of a tick. */
final class TickRoadTest {
    public static void main(String[] args) {
        opensByItsSteps();
        agesInEveryStep();
        demandOfEverySectionAndOrder();
        warningGoesOnWithoutDemand();
        loweringWaitsForProof();
        provedNeedsFiveZerosRunning();
        downCountsQuietTicksRunning();
        raisingGoesBackDown();
        raisingEndsWithBothUp();
        motorsFollowTheRoad();
        Check.end();
    }

    private static void road(CrossingUnit x, String when, int step, int age) {
        Check.same(when + ": step", x.about(0), step);
        Check.same(when + ": age", x.about(1), age);
    }

    private static void opensByItsSteps() {
        CrossingUnit x = new CrossingUnit();
        x.ticks(7);
        road(x, "no demand", 0, 7);
        x.order(1);
        road(x, "ahead of the tick", 0, 7);
        x.tick();
        road(x, "amber", 1, 0);
        x.ticks(29);
        road(x, "amber still", 1, 29);
        x.tick();
        road(x, "red", 2, 0);
        x.ticks(79);
        road(x, "red still", 2, 79);
        x.tick();
        road(x, "lowering", 3, 0);
        x.barrier(0, 0);
        x.barrier(1, 0);
        x.ticks(4);
        road(x, "lowering still", 3, 4);
        x.tick();
        road(x, "down", 4, 0);
        x.cancel(1);
        x.ticks(29);
        road(x, "down still", 4, 29);
        x.tick();
        road(x, "raising", 5, 0);
        x.barrier(0, 100);
        x.barrier(1, 100);
        x.tick();
        road(x, "open", 0, 0);
        int[] steps = {1, 2, 3, 4, 5, 0};
        int[] times = {8, 38, 118, 123, 153, 154};
        int seen = 0;
        for (int i = 0; i < x.about(10); i++) {
            if (x.event(i, 1) == 3) {
                Check.same("time of a step", x.event(i, 0), times[seen]);
                Check.same("which step", x.event(i, 2), steps[seen++]);
            }
        }
        Check.same("steps", seen, 6);
    }

    private static void agesInEveryStep() {
        CrossingUnit x = Units.shut(0);
        x.ticks(300);
        road(x, "down with an order", 4, 300);
        CrossingUnit y = Units.alarmed();
        y.ticks(200);
        road(y, "lowering, unproved", 3, 261);
        x.cancel(0);
        x.ticks(30);
        x.ticks(50);
        road(x, "raising, not up", 5, 50);
    }

    private static void demandOfEverySectionAndOrder() {
        for (int track = 0; track < 2; track++) {
            CrossingUnit ordered = new CrossingUnit();
            ordered.order(track);
            ordered.tick();
            Check.same("an order of " + track, ordered.about(0), 1);
            for (int head = 0; head < 4; head++) {
                CrossingUnit disturbed = new CrossingUnit();
                disturbed.health(track, head, false);
                disturbed.tick();
                Check.same("disturbed at " + track + " " + head, disturbed.about(0), 1);
            }
            CrossingUnit occupied = new CrossingUnit();
            Units.pulseAndTick(occupied, track, 0, 1);
            Check.same("occupied at end 0", occupied.about(0), 1);
            CrossingUnit beyond = new CrossingUnit();
            Units.pulseAndTick(beyond, track, 3, -1);
            Check.same("occupied at end 1", beyond.about(0), 1);
        }
        CrossingUnit middle = new CrossingUnit();
        middle.pulse(1, 0, 1);
        middle.pulse(1, 1, 1);
        middle.tick();
        Check.same("section 1 alone is occupied", middle.section(1, 1, 0), 1);
        Check.same("and demands", middle.about(0), 1);
    }

    private static void warningGoesOnWithoutDemand() {
        CrossingUnit x = new CrossingUnit();
        x.order(0);
        x.tick();
        x.cancel(0);
        x.ticks(30);
        road(x, "red", 2, 0);
        x.ticks(80);
        road(x, "lowering", 3, 0);
        x.barrier(0, 0);
        x.barrier(1, 0);
        x.ticks(5);
        road(x, "down", 4, 0);
        Check.same("the tick that brings DOWN is none of its quiet ones", x.about(2), 0);
        x.ticks(29);
        Check.same("quiet", x.about(2), 29);
        x.tick();
        road(x, "raising", 5, 0);
        Check.same("quiet in another step", x.about(2), 0);
    }

    private static void loweringWaitsForProof() {
        CrossingUnit x = new CrossingUnit();
        x.order(0);
        x.ticks(111);
        x.barrier(0, 0);
        x.ticks(20);
        road(x, "one barrier is down", 3, 20);
        Check.same("not proved", x.about(3), 0);
        x.barrier(1, 1);
        x.ticks(10);
        road(x, "the other nearly", 3, 30);
        x.barrier(1, 0);
        x.ticks(4);
        road(x, "four zeros", 3, 34);
        x.tick();
        road(x, "five zeros", 4, 0);
    }

    private static void provedNeedsFiveZerosRunning() {
        CrossingUnit x = new CrossingUnit();
        x.barrier(0, 0);
        x.barrier(1, 0);
        Check.same("told, but not at a tick", x.about(3), 0);
        x.ticks(4);
        Check.same("four zeros", x.about(3), 0);
        x.tick();
        Check.same("five zeros", x.about(3), 1);
        x.barrier(1, 1);
        Check.same("by the latest tick still", x.about(3), 1);
        x.barrier(1, 0);
        x.tick();
        Check.same("what counts is the position at a tick", x.about(3), 1);
        x.barrier(0, 2);
        x.tick();
        Check.same("not any more", x.about(3), 0);
        x.barrier(0, 0);
        x.ticks(4);
        Check.same("four zeros again", x.about(3), 0);
        x.tick();
        Check.same("five zeros again", x.about(3), 1);
    }

    private static void downCountsQuietTicksRunning() {
        CrossingUnit x = Units.shut(0);
        x.ticks(40);
        Check.same("with a demand", x.about(2), 0);
        x.cancel(0);
        x.ticks(29);
        Check.same("quiet", x.about(2), 29);
        x.order(1);
        x.tick();
        Check.same("a demand", x.about(2), 0);
        road(x, "down", 4, 70);
        x.cancel(1);
        x.ticks(29);
        road(x, "down still", 4, 99);
        x.tick();
        road(x, "raising", 5, 0);
        x.tick();
        Check.same("quiet in step 5", x.about(2), 0);
    }

    private static void raisingGoesBackDown() {
        CrossingUnit x = Units.shut(0);
        x.cancel(0);
        x.ticks(30);
        Check.same("raising", x.about(0), 5);
        x.barrier(0, 100);
        x.barrier(1, 100);
        x.order(0);
        Check.same("a demand goes ahead of both up", x.tick() & 0xf0, 0x50);
        road(x, "lowering", 3, 0);
        x.barrier(0, 0);
        x.barrier(1, 0);
        x.ticks(5);
        road(x, "down", 4, 0);
    }

    private static void raisingEndsWithBothUp() {
        CrossingUnit x = Units.shut(1);
        x.cancel(1);
        x.ticks(30);
        x.barrier(0, 100);
        x.tick();
        road(x, "one is up", 5, 1);
        x.barrier(1, 99);
        x.tick();
        road(x, "the other nearly", 5, 2);
        x.barrier(0, 50);
        x.barrier(1, 100);
        x.tick();
        road(x, "the first one is not any more", 5, 3);
        x.barrier(0, 100);
        Check.same("open: the lamps are off", x.tick(), 0);
        road(x, "open", 0, 0);
    }

    private static int motors(int output) {
        return (output >> 4) & 15;
    }

    private static void motorsFollowTheRoad() {
        CrossingUnit x = new CrossingUnit();
        x.barrier(0, 99);
        Check.same("open: 0 goes up", motors(x.tick()), 2);
        x.barrier(1, 0);
        Check.same("open: both go up", motors(x.tick()), 10);
        x.order(0);
        Check.same("amber: off", motors(x.tick()), 0);
        Check.same("red: off", motors(x.ticks(30)), 0);
        Check.same("lowering: 0 goes down, 1 is down", motors(x.ticks(80)), 1);
        x.barrier(1, 3);
        Check.same("lowering: both go down", motors(x.tick()), 5);
        x.barrier(0, 0);
        Check.same("lowering: 1 goes down", motors(x.tick()), 4);
        x.barrier(1, 0);
        Check.same("down: off", motors(x.ticks(5)), 0);
        Check.same("down", x.about(0), 4);
        x.barrier(1, 100);
        Check.same("down: 1 goes down", motors(x.tick()), 4);
        x.barrier(1, 0);
        x.cancel(0);
        Check.same("raising: both go up", motors(x.ticks(30)), 10);
        x.barrier(0, 100);
        Check.same("raising: 1 goes up", motors(x.tick()), 8);
    }
}
