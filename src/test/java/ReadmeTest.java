/** The example in README.md: what it says of its calls has to be so. */
final class ReadmeTest {
    public static void main(String[] args) {
        CrossingUnit unit = new CrossingUnit();
        Check.same("order(0)", unit.order(0), 0);
        Check.same("the barriers start to go down", unit.ticks(111) & 0xf0, 0x50);
        Check.same("lowering", unit.about(0), 3);
        unit.barrier(0, 0);
        unit.barrier(1, 0);
        int output = unit.ticks(5);
        Check.yes("clear", (output & 1 << 8) != 0);
        Check.same("proved", unit.about(3), 1);
        unit.pulse(0, 0, 1);
        unit.tick();
        Check.same("earliest(0)", unit.earliest(0), 214);
        disturbedAndReset();
        Check.end();
    }

    private static void disturbedAndReset() {
        CrossingUnit unit = new CrossingUnit();
        unit.health(1, 0, false);
        Check.same("disturbed", unit.section(1, 0, 0), 2);
        unit.health(1, 0, true);
        unit.ask(1, 0, 7);
        unit.pulse(1, 0, 1);
        unit.tick();
        unit.pulse(1, 1, 1);
        unit.tick();
        Check.yes("reset", unit.confirm(1, 0, 8));
        Check.same("the first event", unit.event(0, 1), 1);
        Check.same("the latest event", unit.event(unit.about(10) - 1, 1), 2);
    }
}
