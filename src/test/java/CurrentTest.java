/** Promise 7. */
final class CurrentTest {
    public static void main(String[] args) {
        answersWhetherItWasNotSo();
        countsAtATickAlone();
        wrongInputs();
        Check.end();
    }

    private static void answersWhetherItWasNotSo() {
        CrossingUnit x = new CrossingUnit();
        for (int lamp = 0; lamp < 3; lamp++) {
            Check.no("on at first", x.current(lamp, true));
            Check.yes("off", x.current(lamp, false));
            Check.no("off still", x.current(lamp, false));
        }
        x.ticks(10);
        for (int lamp = 0; lamp < 3; lamp++) {
            Check.yes("on again", x.current(lamp, true));
            Check.no("on still", x.current(lamp, true));
        }
    }

    private static void countsAtATickAlone() {
        CrossingUnit x = new CrossingUnit();
        x.order(0);
        x.ticks(10);
        for (int i = 0; i < 5; i++) {
            x.current(0, false);
            x.current(0, true);
            x.tick();
        }
        Check.same("never off at a tick", x.about(8), 0);
        x.current(0, false);
        x.ticks(3);
        Check.same("off at three", x.about(8), 1);
    }

    private static void wrongInputs() {
        CrossingUnit x = new CrossingUnit();
        for (int lamp : new int[] {-1, 3, Integer.MIN_VALUE, Integer.MAX_VALUE}) {
            Check.noSuch("lamp " + lamp, () -> x.current(lamp, false));
            Check.noSuch("lamp " + lamp, () -> x.current(lamp, true));
        }
        for (int lamp = 0; lamp < 3; lamp++) {
            Check.no("unchanged", x.current(lamp, true));
        }
        Check.same("nothing else changed", Units.all(x), Units.all(new CrossingUnit()));
    }
}
