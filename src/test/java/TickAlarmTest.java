/** Promise 4: stalls and alarms, steps 5 and 7 of a tick. */
final class TickAlarmTest {
    public static void main(String[] args) {
        alarmAtSixtyOne();
        movingEndsTheStall();
        anotherPositionEndsTheAlarm();
        eachBarrierByItself();
        alarmStopsMotorsInEveryStep();
        goingUpStallsToo();
        Check.end();
    }

    private static void alarmAtSixtyOne() {
        CrossingUnit x = new CrossingUnit();
        x.order(0);
        Check.same("the motors start", x.ticks(111) & 0xcf0, 0x050);
        Check.same("no stall yet", x.about(6) + x.about(7), 0);
        x.tick();
        Check.same("stall 0", x.about(6), 1);
        Check.same("stall 1", x.about(7), 1);
        Check.same("no alarm at sixty", x.ticks(59) & 0xcf0, 0x050);
        Check.same("sixty", x.about(6), 60);
        int events = x.about(10);
        Check.same("alarms, motors off", x.tick() & 0xcf0, 0xc00);
        Check.same("sixty-one", x.about(7), 61);
        Units.event(x, events, 172, 6, 0);
        Units.event(x, events + 1, 172, 6, 1);
        Check.same("two events", x.about(10), events + 2);
        Check.same("it stays", x.tick() & 0xcf0, 0xc00);
        Check.same("with the motor off there is no stall", x.about(6), 0);
        x.ticks(200);
        Check.same("it stays on", x.about(4) & 0xcf0, 0xc00);
        Check.same("no event more", x.about(10), events + 2);
    }

    private static void movingEndsTheStall() {
        CrossingUnit x = new CrossingUnit();
        x.order(0);
        x.ticks(171);
        Check.same("sixty", x.about(6), 60);
        x.barrier(0, 99);
        x.tick();
        Check.same("moved", x.about(6), 0);
        Check.same("the other one has an alarm", x.about(4) & 0xcf0, 0x810);
        x.barrier(0, 50);
        x.barrier(0, 99);
        x.tick();
        Check.same("what counts is the position at a tick", x.about(6), 1);
    }

    private static void anotherPositionEndsTheAlarm() {
        CrossingUnit x = Units.alarmed();
        x.barrier(0, 100);
        Check.same("the same position", x.tick() & 0xcf0, 0xc00);
        x.barrier(0, 99);
        Check.same("told, but not at a tick", x.about(4) & 0xcf0, 0xc00);
        Check.same("another position", x.tick() & 0xcf0, 0x810);
        x.barrier(1, 0);
        Check.same("down: no alarm, no motor", x.tick() & 0xcf0, 0x010);
        Check.same("a stall starts anew", x.about(6), 1);
        int events = x.about(10);
        x.ticks(60);
        Check.same("an alarm again", x.about(4) & 0xcf0, 0x400);
        Units.event(x, events, 235, 6, 0);
    }

    private static void eachBarrierByItself() {
        CrossingUnit x = new CrossingUnit();
        x.order(0);
        x.ticks(111);
        x.barrier(0, 0);
        x.ticks(61);
        Check.same("barrier 1 alone", x.about(4) & 0xcf0, 0x800);
        Check.same("stall 0", x.about(6), 0);
        Check.same("stall 1", x.about(7), 61);
        Check.same("one alarm is enough", x.order(1), 4);
    }

    private static void alarmStopsMotorsInEveryStep() {
        CrossingUnit x = Units.shut(0);
        x.barrier(0, 10);
        x.ticks(62);
        Check.same("in DOWN", x.about(4) & 0xcf0, 0x400);
        Check.same("it is DOWN", x.about(0), 4);
        x.cancel(0);
        x.ticks(30);
        Check.same("in RAISING", x.about(4) & 0xcf0, 0x480);
        Check.same("it is RAISING", x.about(0), 5);
    }

    private static void goingUpStallsToo() {
        CrossingUnit x = new CrossingUnit();
        x.barrier(1, 40);
        Check.same("the motor starts", x.tick() & 0xcf0, 0x080);
        Check.same("no stall by an off motor", x.about(7), 0);
        x.ticks(60);
        Check.same("sixty", x.about(7), 60);
        Check.same("in OPEN", x.tick() & 0xcf0, 0x800);
        Units.event(x, 0, 62, 6, 1);
    }
}
