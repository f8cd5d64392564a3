/** Promise 1. */
final class NewObjectTest {
    public static void main(String[] args) {
        everythingIsAtItsStart();
        everyHeadIsHealthyAndHasNoPulse();
        barriersLampsAndDay();
        objectsAreApart();
        Check.end();
    }

    private static void everythingIsAtItsStart() {
        CrossingUnit x = new CrossingUnit();
        Check.same("a new object", Units.all(x),
                "0/0:0,0,0,0 0/1:0,0,0,0 0/2:0,0,0,0 1/0:0,0,0,0 1/1:0,0,0,0 1/2:0,0,0,0 "
                        + "about 0 0 0 0 0 0 0 0 0 0 0 earliest -1 -1");
        Check.same("NONE", CrossingUnit.NONE, -1);
        Check.same("ticks(0)", x.ticks(0), 0);
        Check.noSuch("event(0, 0)", () -> x.event(0, 0));
        Check.same("tick()", x.tick(), 0);
        Check.same("after a tick", Units.about(x), "about 0 1 0 0 0 1 0 0 0 0 0");
    }

    private static void everyHeadIsHealthyAndHasNoPulse() {
        CrossingUnit x = new CrossingUnit();
        for (int track = 0; track < 2; track++) {
            for (int head = 0; head < 4; head++) {
                Check.no("health " + track + " " + head, x.health(track, head, true));
                x.pulse(track, head, 1);
            }
        }
    }

    private static void barriersLampsAndDay() {
        CrossingUnit x = new CrossingUnit();
        Check.same("barrier 0", x.barrier(0, 100), 100);
        Check.same("barrier 1", x.barrier(1, 100), 100);
        for (int lamp = 0; lamp < 3; lamp++) {
            Check.no("current " + lamp, x.current(lamp, true));
        }
        Check.no("night", x.night(false));
        Check.no("an order of track 0", x.cancel(0));
        Check.no("an order of track 1", x.cancel(1));
    }

    private static void objectsAreApart() {
        CrossingUnit x = new CrossingUnit();
        CrossingUnit y = new CrossingUnit();
        x.order(0);
        x.health(1, 1, false);
        x.pulse(0, 0, 1);
        x.barrier(0, 50);
        x.ticks(40);
        Check.same("the other object", Units.all(y), Units.all(new CrossingUnit()));
    }
}
