/** Promise 8. */
final class NightTest {
    public static void main(String[] args) {
        CrossingUnit x = new CrossingUnit();
        Check.no("day at first", x.night(false));
        Check.yes("night", x.night(true));
        Check.no("night still", x.night(true));
        x.ticks(500);
        Check.yes("no tick ends it", x.night(false));
        Check.no("day still", x.night(false));

        CrossingUnit amber = new CrossingUnit();
        amber.order(0);
        Check.same("by day at 5", amber.ticks(5), 1);
        amber.night(true);
        Check.same("the output as it is", amber.about(4), 1);
        Check.same("by night at 6", amber.tick(), 9);
        amber.night(false);
        Check.same("by day at 7", amber.tick(), 1);

        CrossingUnit lowering = new CrossingUnit();
        lowering.order(0);
        Check.same("by day the bell rings in step 3", lowering.ticks(120) & 8, 8);
        lowering.night(true);
        Check.same("by night it does not", lowering.tick() & 8, 0);
        Check.end();
    }
}
