/** Promise 9. */
final class OrderTest {
    public static void main(String[] args) {
        takenInEveryStep();
        thereIsOne();
        aSectionIsDisturbed();
        sectionOneIsOccupied();
        thereIsAnAlarm();
        theFirstThatHolds();
        wrongInputs();
        Check.end();
    }

    private static void taken(CrossingUnit x, int track, String when) {
        int events = x.about(10);
        Check.same(when, x.order(track), 0);
        Units.event(x, events, x.about(5), 8, track);
        Check.same(when + ": one event", x.about(10), events + 1);
        Check.same(when + ": it stands", x.about(9), 1 << track);
        x.cancel(track);
    }

    private static void takenInEveryStep() {
        CrossingUnit x = new CrossingUnit();
        taken(x, 0, "open");
        taken(x, 1, "open");
        x.order(0);
        x.tick();
        x.cancel(0);
        taken(x, 1, "amber");
        x.ticks(30);
        taken(x, 0, "red");
        x.ticks(80);
        taken(x, 1, "lowering");
        x.barrier(0, 0);
        x.barrier(1, 0);
        x.ticks(5);
        Check.same("down", x.about(0), 4);
        taken(x, 0, "down");
        x.ticks(30);
        Check.same("raising", x.about(0), 5);
        taken(x, 1, "raising");
    }

    private static void thereIsOne() {
        CrossingUnit x = new CrossingUnit();
        Check.same("track 1", x.order(1), 0);
        Check.same("again", x.order(1), 1);
        Check.same("bits", x.about(9), 2);
        Check.same("track 0 by itself", x.order(0), 0);
        Check.same("both", x.about(9), 3);
        x.ticks(50);
        Check.same("it stands on", x.order(0), 1);
        x.cancel(0);
        Check.same("anew", x.order(0), 0);
    }

    private static void aSectionIsDisturbed() {
        for (int track = 0; track < 2; track++) {
            for (int head = 0; head < 4; head++) {
                CrossingUnit x = new CrossingUnit();
                x.health(track, head, false);
                Check.same("head " + head, x.order(track), 2);
                Check.same("the other track", x.order(1 - track), 0);
            }
        }
    }

    private static void sectionOneIsOccupied() {
        CrossingUnit x = new CrossingUnit();
        Units.pulseAndTick(x, 0, 0, 1);
        Check.same("section 0 may be occupied", x.order(0), 0);
        x.cancel(0);
        Units.pulseAndTick(x, 0, 1, 1);
        Check.same("section 1 may not", x.order(0), 3);
        Check.same("the other track's may", x.order(1), 0);
        Units.pulseAndTick(x, 0, 2, 1);
        Check.same("section 2 may", x.order(0), 0);
    }

    private static void thereIsAnAlarm() {
        CrossingUnit x = Units.alarmed();
        Check.same("both alarms", x.order(0), 4);
        x.barrier(0, 50);
        x.tick();
        Check.same("that of barrier 1", x.order(0), 4);
        x.barrier(1, 50);
        Check.same("it goes with a tick", x.order(0), 4);
        x.tick();
        Check.same("none", x.order(0), 0);
        x.cancel(0);
        x.barrier(1, 0);
        x.ticks(62);
        Check.same("alarm 0 alone", x.about(4) & 0xc00, 0x400);
        Check.same("that of barrier 0", x.order(0), 4);
    }

    private static void theFirstThatHolds() {
        CrossingUnit x = Units.alarmed();
        Check.same("one that stands, ahead of an alarm", x.order(1), 1);
        x.health(1, 1, false);
        Check.same("one that stands, ahead of a disturbed section", x.order(1), 1);
        Units.pulseAndTick(x, 0, 0, 1);
        Units.pulseAndTick(x, 0, 1, 1);
        Check.same("occupied, ahead of an alarm", x.order(0), 3);
        x.health(0, 3, false);
        int events = x.about(10);
        Check.same("disturbed, ahead of occupied", x.order(0), 2);
        Check.same("none of them is an event", x.about(10), events);
        Check.same("nor an order", x.about(9), 2);
    }

    private static void wrongInputs() {
        CrossingUnit x = new CrossingUnit();
        for (int track : new int[] {-1, 2, Integer.MIN_VALUE, Integer.MAX_VALUE}) {
            Check.noSuch("track " + track, () -> x.order(track));
        }
        Check.same("nothing changed", Units.all(x), Units.all(new CrossingUnit()));
    }
}
