/** Promise 15; the tests of the ticks ask for the most of it too. */
final class AboutTest {
    public static void main(String[] args) {
        allOfIt();
        theOutputAsItIs();
        readingChangesNothing();
        wrongInputs();
        Check.end();
    }

    private static void allOfIt() {
        CrossingUnit x = Units.shut(1);
        Check.same("down, clear", Units.about(x), "about 4 0 0 1 516 116 0 0 0 2 6");
        x.cancel(1);
        x.current(2, false);
        x.ticks(20);
        Check.same("quiet, lamp 2 dead", Units.about(x), "about 4 20 20 1 4 136 0 0 4 0 8");
        x.ticks(20);
        Check.same("raising, stalled", Units.about(x), "about 5 10 0 1 164 156 10 10 4 0 9");
        x.barrier(0, 60);
        x.order(0);
        x.tick();
        Check.same("lowering again", Units.about(x), "about 3 0 0 0 20 157 0 11 4 1 11");
        x.tick();
        Check.same("barrier 1 is down", Units.about(x), "about 3 1 0 0 20 158 1 0 4 1 11");
    }

    private static void theOutputAsItIs() {
        CrossingUnit x = new CrossingUnit();
        x.order(0);
        Check.same("0 before any tick", x.about(4), 0);
        int output = x.tick();
        Check.same("as the tick answered", x.about(4), output);
        x.night(true);
        x.barrier(0, 0);
        x.health(0, 1, false);
        Check.same("nothing between ticks changes it", x.about(4), output);
    }

    private static void readingChangesNothing() {
        CrossingUnit x = Units.alarmed();
        String once = Units.all(x);
        Check.same("read again", Units.all(x), once);
    }

    private static void wrongInputs() {
        CrossingUnit x = Units.shut(0);
        String before = Units.all(x);
        for (int what : new int[] {-1, 11, Integer.MIN_VALUE, Integer.MAX_VALUE}) {
            Check.badArgument("what " + what, () -> x.about(what));
        }
        Check.same("nothing changed", Units.all(x), before);
    }
}
