/** Promise 10. */
final class CancelTest {
    public static void main(String[] args) {
        CrossingUnit x = new CrossingUnit();
        Check.no("none", x.cancel(0));
        x.order(0);
        x.order(1);
        int events = x.about(10);
        Check.yes("one", x.cancel(0));
        Check.no("gone", x.cancel(0));
        Check.same("the other one stands", x.about(9), 2);
        Check.yes("till it is cancelled", x.cancel(1));
        Check.same("no order", x.about(9), 0);
        Check.same("no event", x.about(10), events);
        Check.same("no demand", x.tick(), 0);

        CrossingUnit clear = Units.shut(1);
        clear.cancel(1);
        events = clear.about(10);
        Check.same("its signal is clear till the tick", clear.about(4) & 0x300, 0x200);
        Check.same("and stops with it", clear.tick() & 0x300, 0);
        Units.event(clear, events, 117, 5, 1);

        CrossingUnit twice = Units.shut(0);
        events = twice.about(10);
        twice.cancel(0);
        twice.order(0);
        Check.same("ordered anew ahead of the tick", twice.tick() & 0x300, 0x100);
        Check.same("the signal did not stop", twice.about(10), events + 1);
        wrongInputs();
        Check.end();
    }

    private static void wrongInputs() {
        CrossingUnit x = Units.shut(0);
        x.order(1);
        String before = Units.all(x);
        for (int track : new int[] {-1, 2, Integer.MIN_VALUE, Integer.MAX_VALUE}) {
            Check.noSuch("track " + track, () -> x.cancel(track));
        }
        Check.same("nothing changed", Units.all(x), before);
    }
}
