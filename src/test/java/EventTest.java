/** Promise 16; the tests of what brings an event look at it too. */
final class EventTest {
    public static void main(String[] args) {
        timesBetweenTicks();
        theLatestAreKept();
        oldestAndLatestAtEveryTotal();
        allThatAreKept();
        aTickFillsItUp();
        ofOneTickByItsSteps();
        ofOneTickByTracks();
        whatBringsNone();
        wrongInputs();
        Check.end();
    }

    private static void timesBetweenTicks() {
        CrossingUnit x = new CrossingUnit();
        x.order(1);
        x.ticks(3);
        x.health(0, 2, false);
        x.ticks(4);
        x.health(0, 3, false);
        Units.event(x, 0, 0, 8, 1);
        Units.event(x, 1, 1, 3, 1);
        Units.event(x, 2, 3, 1, 1);
        Units.event(x, 3, 3, 1, 2);
        Check.same("events", x.about(10), 4);
    }

    /** Two events of the same time and kind one behind the other are told apart by their track. */
    private static void order(CrossingUnit x, int track) {
        x.order(track);
        x.cancel(track);
    }

    private static void theLatestAreKept() {
        CrossingUnit x = new CrossingUnit();
        for (int i = 0; i < 64; i++) {
            order(x, i & 1);
        }
        Units.event(x, 0, 0, 8, 0);
        Units.event(x, 63, 0, 8, 1);
        Check.noSuch("the 64th", () -> x.event(64, 0));
        x.health(1, 3, false);
        Check.same("events in all", x.about(10), 65);
        Check.noSuch("the first is not kept any more", () -> x.event(0, 0));
        Check.noSuch("which goes ahead of what", () -> x.event(0, 3));
        Units.event(x, 1, 0, 8, 1);
        Units.event(x, 64, 0, 1, 5);
        x.tick();
        for (int i = 0; i < 99; i++) {
            order(x, 0);
        }
        Check.same("events in all", x.about(10), 165);
        Check.noSuch("100", () -> x.event(100, 1));
        Units.event(x, 101, 1, 8, 0);
        Units.event(x, 164, 1, 8, 0);
        Check.noSuch("165", () -> x.event(165, 2));
    }

    private static void oldestAndLatestAtEveryTotal() {
        CrossingUnit x = new CrossingUnit();
        for (int total = 1; total <= 130; total++) {
            order(x, 0);
            if (total == 1 || total == 63 || total == 64 || total == 65 || total == 66
                    || total == 127 || total == 128 || total == 129) {
                int oldest = Math.max(0, total - 64);
                int all = total;
                Check.same("in all", x.about(10), total);
                Check.same("the oldest of " + total, x.event(oldest, 1), 8);
                Check.same("the latest of " + total, x.event(total - 1, 1), 8);
                Check.noSuch("ahead of the oldest of " + total, () -> x.event(oldest - 1, 1));
                Check.noSuch("behind the latest of " + total, () -> x.event(all, 1));
                Check.badArgument("what of the oldest", () -> x.event(oldest, 3));
                Check.badArgument("what of the latest", () -> x.event(all - 1, -1));
            }
        }
    }

    /** An order that is cancelled ahead of its tick brings its own event alone. */
    private static void allThatAreKept() {
        CrossingUnit x = new CrossingUnit();
        for (int i = 0; i < 100; i++) {
            order(x, i % 3 & 1);
            x.tick();
        }
        for (int i = 36; i < 100; i++) {
            Units.event(x, i, i, 8, i % 3 & 1);
        }
        Check.noSuch("not kept", () -> x.event(35, 0));
        Check.noSuch("not there yet", () -> x.event(100, 0));
    }

    private static void aTickFillsItUp() {
        CrossingUnit x = new CrossingUnit();
        for (int i = 0; i < 62; i++) {
            order(x, 1);
        }
        x.pulse(0, 0, -1);
        x.pulse(0, 3, 1);
        x.pulse(1, 3, 1);
        x.tick();
        Check.same("in all", x.about(10), 66);
        Check.noSuch("the second one", () -> x.event(1, 0));
        Units.event(x, 2, 0, 8, 1);
        Units.event(x, 61, 0, 8, 1);
        Units.event(x, 62, 1, 1, 0);
        Units.event(x, 63, 1, 1, 2);
        Units.event(x, 64, 1, 1, 5);
        Units.event(x, 65, 1, 3, 1);
    }

    /**
     * RAISING comes at 152, so that the motors that stand still since then give the alarms at 213;
     * lamp 1 is lit from 210 to 214, so that its third dark tick is at 213 too.
     */
    private static void ofOneTickByItsSteps() {
        CrossingUnit x = Units.shut(0);
        x.ticks(6);
        x.cancel(0);
        x.ticks(30);
        Check.same("raising", x.about(0), 5);
        x.ticks(58);
        x.current(1, false);
        x.ticks(2);
        int events = x.about(10);
        x.order(0);
        x.pulse(0, 1, 1);
        x.tick();
        Units.event(x, events, 212, 8, 0);
        Units.event(x, events + 1, 213, 1, 0);
        Units.event(x, events + 2, 213, 9, 0);
        Units.event(x, events + 3, 213, 7, 1);
        Units.event(x, events + 4, 213, 6, 0);
        Units.event(x, events + 5, 213, 6, 1);
        Units.event(x, events + 6, 213, 3, 3);
        Check.same("events", x.about(10), events + 7);
    }

    private static void ofOneTickByTracks() {
        for (int stops = 0; stops < 2; stops++) {
            CrossingUnit x = Units.shut(stops);
            x.cancel(stops);
            x.order(1 - stops);
            int events = x.about(10);
            x.tick();
            Units.event(x, events, 117, stops == 0 ? 5 : 4, 0);
            Units.event(x, events + 1, 117, stops == 0 ? 4 : 5, 1);
            Check.same("events", x.about(10), events + 2);
        }
    }

    private static void whatBringsNone() {
        CrossingUnit x = Units.shut(0);
        x.health(1, 3, false);
        int events = x.about(10);
        x.health(1, 3, true);
        x.pulse(0, 0, 1);
        x.barrier(0, 50);
        x.barrier(0, 0);
        x.current(1, false);
        x.current(1, true);
        x.night(true);
        x.ask(1, 2, 4);
        Check.no("not swept", x.confirm(1, 2, 5));
        Check.same("there is one", x.order(0), 1);
        Check.same("disturbed", x.order(1), 2);
        Check.no("there is none", x.cancel(1));
        x.ticks(0);
        Check.same("between ticks", x.about(10), events);
        x.tick();
        Check.same("a section is occupied", x.section(0, 0, 0), 1);
        Check.same("a coming", x.earliest(0), 214);
        x.ticks(20);
        Check.same("in ticks", x.about(10), events);
        x.cancel(0);
        Check.same("an order goes", x.about(10), events);
    }

    private static void wrongInputs() {
        CrossingUnit x = Units.shut(0);
        String before = Units.all(x);
        for (int i : new int[] {-1, 6, -64, Integer.MIN_VALUE, Integer.MAX_VALUE}) {
            Check.noSuch("event " + i, () -> x.event(i, 0));
            Check.noSuch("which goes ahead of what", () -> x.event(i, 3));
        }
        for (int what : new int[] {-1, 3, Integer.MIN_VALUE, Integer.MAX_VALUE}) {
            Check.badArgument("what " + what, () -> x.event(0, what));
        }
        Check.same("nothing changed", Units.all(x), before);
    }
}
