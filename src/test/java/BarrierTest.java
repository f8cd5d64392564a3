/** Promise 6. */
final class BarrierTest {
    public static void main(String[] args) {
        answersWhatItWas();
        countsAtATickAlone();
        wrongInputs();
        Check.end();
    }

    private static void answersWhatItWas() {
        CrossingUnit x = new CrossingUnit();
        Check.same("at first", x.barrier(0, 0), 100);
        Check.same("each by itself", x.barrier(1, 55), 100);
        Check.same("as told last", x.barrier(0, 100), 0);
        Check.same("no tick between", x.barrier(0, 7), 100);
        x.tick();
        Check.same("a tick leaves it", x.barrier(1, 55), 55);
        Check.same("and the other one", x.barrier(0, 7), 7);
    }

    private static void countsAtATickAlone() {
        CrossingUnit x = new CrossingUnit();
        x.barrier(0, 30);
        x.barrier(0, 100);
        Check.same("up at the tick", x.tick(), 0);
        x.barrier(0, 30);
        Check.same("the output as it is", x.about(4), 0);
        Check.same("not up at the tick", x.tick(), 32);
    }

    private static void wrongInputs() {
        CrossingUnit x = new CrossingUnit();
        for (int b : new int[] {-1, 2, Integer.MIN_VALUE, Integer.MAX_VALUE}) {
            Check.noSuch("barrier " + b, () -> x.barrier(b, 50));
            Check.noSuch("barrier goes ahead of position", () -> x.barrier(b, 101));
        }
        for (int position : new int[] {-1, 101, Integer.MIN_VALUE, Integer.MAX_VALUE}) {
            Check.badArgument("position " + position, () -> x.barrier(0, position));
            Check.badArgument("position " + position, () -> x.barrier(1, position));
        }
        Check.same("0 is unchanged", x.barrier(0, 100), 100);
        Check.same("1 is unchanged", x.barrier(1, 100), 100);
        Check.same("nothing else changed", Units.all(x), Units.all(new CrossingUnit()));
    }
}
