/** Promise 4: orders that are used up and signals, steps 3 and 9 of a tick, and their output. */
final class TickSignalTest {
    public static void main(String[] args) {
        clearsWithTheBarriersProved();
        bothTracks();
        stopsIfNotProved();
        stopsWithADisturbedSection();
        theOtherTrackDoesNotMatter();
        stopsWithBothRedLampsDead();
        orderIsUsedUp();
        orderIsNotUsedUp();
        clearsBehindAReset();
        eventsOfOneTickInOrder();
        Check.end();
    }

    private static int signals(int output) {
        return (output >> 8) & 3;
    }

    private static void clearsWithTheBarriersProved() {
        for (int track = 0; track < 2; track++) {
            CrossingUnit x = new CrossingUnit();
            x.order(track);
            x.ticks(111);
            x.barrier(0, 0);
            x.barrier(1, 0);
            Check.same("lowering", signals(x.ticks(4)), 0);
            Check.same("down", signals(x.tick()), 1 << track);
            int last = x.about(10) - 1;
            Units.event(x, last - 1, 116, 3, 4);
            Units.event(x, last, 116, 4, track);
            Check.same("it stays", signals(x.ticks(100)), 1 << track);
            Check.same("one event", x.about(10), last + 1);
        }
    }

    private static void bothTracks() {
        CrossingUnit x = Units.shut(1);
        x.order(0);
        Check.same("with the next tick", signals(x.about(4)), 2);
        Check.same("both", signals(x.tick()), 3);
        x.cancel(0);
        x.cancel(1);
        Check.same("none", signals(x.tick()), 0);
        int last = x.about(10) - 1;
        Units.event(x, last - 1, 118, 5, 0);
        Units.event(x, last, 118, 5, 1);
    }

    private static void stopsIfNotProved() {
        CrossingUnit x = Units.shut(0);
        x.barrier(1, 1);
        Check.same("not proved", signals(x.tick()), 0);
        Units.event(x, x.about(10) - 1, 117, 5, 0);
        Check.same("down all the same", x.about(0), 4);
        x.barrier(1, 0);
        Check.same("four zeros", signals(x.ticks(4)), 0);
        Check.same("five zeros", signals(x.tick()), 1);
        Units.event(x, x.about(10) - 1, 122, 4, 0);
    }

    private static void stopsWithADisturbedSection() {
        for (int head = 0; head < 4; head++) {
            CrossingUnit x = Units.shut(1);
            x.health(1, head, false);
            Check.same("with the next tick", signals(x.about(4)), 2);
            Check.same("head " + head, signals(x.tick()), 0);
            Check.same("the order stands", x.about(9), 2);
        }
    }

    private static void theOtherTrackDoesNotMatter() {
        CrossingUnit x = Units.shut(0);
        x.health(1, 1, false);
        x.health(1, 2, false);
        Check.same("disturbed there", signals(x.tick()), 1);
        CrossingUnit y = Units.shut(0);
        y.pulse(0, 0, 1);
        y.pulse(0, 3, -1);
        Check.same("sections 0 and 2 may be occupied", signals(y.tick()), 1);
        Check.same("the order stands", y.about(9), 1);
    }

    private static void stopsWithBothRedLampsDead() {
        CrossingUnit x = Units.shut(0);
        x.current(0, false);
        x.current(1, false);
        Check.same("one red lamp is dead", signals(x.ticks(10)), 1);
        Check.same("lamp 1", x.about(8), 2);
        x.current(1, true);
        x.current(2, false);
        x.ticks(10);
        Check.same("lamp 2", x.about(8), 4);
        Check.same("the other red lamp is dead", signals(x.about(4)), 1);
        x.current(1, false);
        Check.same("both", signals(x.ticks(10)), 0);
        Check.same("lamps 1 and 2", x.about(8), 6);
        x.current(2, true);
        Check.same("one is back", signals(x.ticks(10)), 1);
    }

    private static void orderIsUsedUp() {
        for (int track = 0; track < 2; track++) {
            CrossingUnit x = Units.shut(track);
            Check.same("coming", signals(Units.pulseAndTick(x, track, 0, 1)), 1 << track);
            int events = x.about(10);
            Check.same("it passes", signals(Units.pulseAndTick(x, track, 1, 1)), 0);
            Check.same("no order", x.about(9), 0);
            Units.event(x, events, 118, 9, track);
            Units.event(x, events + 1, 118, 5, track);
            Check.same("events", x.about(10), events + 2);
        }
        CrossingUnit back = Units.shut(0);
        Units.pulseAndTick(back, 0, 3, -1);
        Check.same("it passes the other way", signals(Units.pulseAndTick(back, 0, 2, -1)), 0);
        Check.same("no order then", back.about(9), 0);
    }

    private static void orderIsNotUsedUp() {
        CrossingUnit below = Units.shut(0);
        below.pulse(0, 2, 1);
        below.tick();
        Check.same("a balance below 0", below.section(0, 1, 1), -1);
        Check.same("uses up nothing", below.about(9), 1);
        below.pulse(0, 1, 1);
        below.tick();
        below.pulse(0, 0, 1);
        below.pulse(0, 1, 1);
        below.tick();
        Check.same("above 0 from 0 uses it up, disturbed or not", below.about(9), 0);

        CrossingUnit jump = Units.shut(0);
        jump.pulse(0, 2, 1);
        jump.tick();
        jump.pulse(0, 1, 1);
        jump.pulse(0, 2, -1);
        jump.tick();
        Check.same("above 0 now", jump.section(0, 1, 1), 1);
        Check.same("from below 0 it is not used up", jump.about(9), 1);

        CrossingUnit other = Units.shut(0);
        other.pulse(1, 0, 1);
        other.tick();
        other.pulse(1, 1, 1);
        other.tick();
        Check.same("the other track's train", other.about(9), 1);

        CrossingUnit through = Units.shut(0);
        for (int head = 0; head < 4; head++) {
            through.pulse(0, head, 1);
        }
        through.tick();
        Check.same("the balance is 0 behind the pulses", through.about(9), 1);
    }

    private static void clearsBehindAReset() {
        CrossingUnit x = Units.shut(0);
        Check.same("section 1 is disturbed", signals(Units.pulseAndTick(x, 0, 2, 1)), 0);
        x.ask(0, 1, 1);
        Units.pulseAndTick(x, 0, 2, -1);
        Check.same("swept, but disturbed", signals(Units.pulseAndTick(x, 0, 1, -1)), 0);
        Check.yes("reset", x.confirm(0, 1, 2));
        Check.same("with the next tick", signals(x.about(4)), 0);
        Check.same("its order stands still", signals(x.tick()), 1);
    }

    private static void eventsOfOneTickInOrder() {
        CrossingUnit x = Units.shut(0);
        x.order(1);
        x.tick();
        x.current(1, false);
        x.ticks(5);
        Check.same("two red ticks at 121 and 122 are dark", x.about(8), 0);
        Check.same("both are clear", signals(x.about(4)), 3);
        int events = x.about(10);
        x.pulse(1, 1, 1);
        x.pulse(0, 1, 1);
        x.tick();
        Units.event(x, events, 123, 1, 0);
        Units.event(x, events + 1, 123, 1, 3);
        Units.event(x, events + 2, 123, 9, 0);
        Units.event(x, events + 3, 123, 9, 1);
        Units.event(x, events + 4, 123, 7, 1);
        Units.event(x, events + 5, 123, 5, 0);
        Units.event(x, events + 6, 123, 5, 1);
        Check.same("events", x.about(10), events + 7);
    }
}
