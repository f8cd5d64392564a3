/** Promise 5. */
final class TicksTest {
    public static void main(String[] args) {
        asManySingleTicks();
        noTicks();
        theMost();
        wrongInputs();
        Check.end();
    }

    private static void tell(CrossingUnit x, int round) {
        x.pulse(round & 1, round & 3, 1);
        x.barrier(round & 1, (round * 37) % 101);
        x.current(round % 3, (round & 4) == 0);
        x.night((round & 8) == 0);
        x.order(0);
    }

    private static void asManySingleTicks() {
        CrossingUnit together = new CrossingUnit();
        CrossingUnit single = new CrossingUnit();
        for (int round = 0; round < 8; round++) {
            tell(together, round);
            tell(single, round);
            int last = 0;
            for (int i = 0; i < 25; i++) {
                last = single.tick();
            }
            Check.same("round " + round, together.ticks(25), last);
        }
        Check.same("all of them", Units.all(together), Units.all(single));
    }

    private static void noTicks() {
        CrossingUnit x = new CrossingUnit();
        Check.same("before any", x.ticks(0), 0);
        x.order(0);
        int output = x.tick();
        x.pulse(0, 0, 1);
        x.cancel(0);
        Check.same("the output as it is", x.ticks(0), output);
        Check.same("no time goes by", x.about(5), 1);
        Check.same("no pulse counts", x.section(0, 0, 1), 0);
    }

    private static void theMost() {
        CrossingUnit x = new CrossingUnit();
        x.ticks(1000);
        Check.same("time", x.about(5), 1000);
        Check.same("one", x.ticks(1), 0);
        Check.same("time", x.about(5), 1001);
    }

    private static void wrongInputs() {
        CrossingUnit x = Units.shut(0);
        String before = Units.all(x);
        for (int n : new int[] {-1, 1001, Integer.MIN_VALUE, Integer.MAX_VALUE}) {
            Check.badArgument("ticks(" + n + ")", () -> x.ticks(n));
        }
        Check.same("nothing changed", Units.all(x), before);
    }
}
