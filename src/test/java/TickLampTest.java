/** Promise 4: lamps and the bell, steps 4 and 8 of a tick. */
final class TickLampTest {
    public static void main(String[] args) {
        lampsOfEachStep();
        bellByDay();
        bellByNight();
        deadAtThreeDarkTicks();
        onlyLitLampsAreWatched();
        darkTicksStayWhileNotLit();
        Check.end();
    }

    private static void lampsOfEachStep() {
        CrossingUnit x = new CrossingUnit();
        Check.same("open", x.ticks(4) & 7, 0);
        x.order(0);
        for (int time = 5; time < 35; time++) {
            Check.same("amber at " + time, x.tick() & 7, 1);
        }
        for (int time = 35; time < 160; time++) {
            Check.same("red and lowering at " + time, x.tick() & 7, time / 5 % 2 == 0 ? 2 : 4);
        }
        x.barrier(0, 0);
        x.barrier(1, 0);
        x.cancel(0);
        for (int time = 160; time < 220; time++) {
            Check.same("down and raising at " + time, x.tick() & 7, time / 5 % 2 == 0 ? 2 : 4);
        }
        Check.same("raising", x.about(0), 5);
    }

    private static void bellByDay() {
        CrossingUnit x = new CrossingUnit();
        Check.same("open", x.tick() & 8, 0);
        x.order(0);
        for (int time = 2; time < 150; time++) {
            Check.same("by day at " + time, x.tick() & 8, time / 5 % 2 == 0 ? 8 : 0);
        }
        Check.same("lowering", x.about(0), 3);
        x.barrier(0, 0);
        x.barrier(1, 0);
        x.ticks(4);
        for (int time = 154; time < 170; time++) {
            Check.same("down at " + time, x.tick() & 8, 0);
        }
        x.cancel(0);
        x.ticks(30);
        for (int time = 200; time < 212; time++) {
            Check.same("raising at " + time, x.tick() & 8, 0);
        }
    }

    private static void bellByNight() {
        CrossingUnit x = new CrossingUnit();
        x.night(true);
        x.order(0);
        for (int time = 1; time < 111; time++) {
            Check.same("by night at " + time, x.tick() & 8, time / 10 % 2 == 0 ? 8 : 0);
        }
        for (int time = 111; time < 141; time++) {
            Check.same("lowering by night at " + time, x.tick() & 8, 0);
        }
        Check.same("red lamps keep their beat", x.tick() & 7, 2);
        x.night(false);
        Check.same("by day from the next tick on", x.tick() & 8, 8);
    }

    private static void deadAtThreeDarkTicks() {
        CrossingUnit x = new CrossingUnit();
        x.current(0, false);
        x.order(0);
        x.tick();
        Check.same("lit by this tick", x.about(8), 0);
        x.ticks(2);
        Check.same("two dark ticks", x.about(8), 0);
        int events = x.about(10);
        x.tick();
        Check.same("three dark ticks", x.about(8), 1);
        Units.event(x, events, 4, 7, 0);
        x.ticks(5);
        Check.same("dead once", x.about(10), events + 1);
        x.current(0, true);
        Check.same("at a tick", x.about(8), 1);
        x.tick();
        Check.same("not dead any more", x.about(8), 0);
        x.current(0, false);
        x.ticks(2);
        Check.same("two dark ticks anew", x.about(8), 0);
        x.current(0, true);
        x.tick();
        x.current(0, false);
        x.ticks(2);
        Check.same("a tick with current between", x.about(8), 0);
        x.tick();
        Check.same("dead again", x.about(8), 1);
        Units.event(x, events + 1, x.about(5), 7, 0);
        Check.same("its lamp is lit all the same", x.about(4) & 7, 1);
    }

    private static void onlyLitLampsAreWatched() {
        CrossingUnit x = new CrossingUnit();
        for (int lamp = 0; lamp < 3; lamp++) {
            x.current(lamp, false);
        }
        x.ticks(20);
        Check.same("none is lit", x.about(8), 0);
        x.order(0);
        x.ticks(30);
        Check.same("amber", x.about(8), 1);
        x.tick();
        Check.same("red comes", x.about(0), 2);
        x.current(0, true);
        x.ticks(40);
        Check.same("amber is not lit, so it stays dead", x.about(8), 7);
    }

    /** Red comes at 31 with lamp 1 (31 / 5 is 6), which is lit till 34 and again from 40 on. */
    private static void darkTicksStayWhileNotLit() {
        CrossingUnit x = new CrossingUnit();
        x.order(0);
        x.ticks(33);
        x.current(1, false);
        x.ticks(2);
        Check.same("two dark ticks at 34 and 35", x.about(8), 0);
        Check.same("lamp 2 is lit now", x.about(4) & 7, 4);
        x.ticks(5);
        Check.same("lamp 1 is lit again", x.about(4) & 7, 2);
        Check.same("as the tick before left it", x.about(8), 0);
        x.tick();
        Check.same("the third at 41", x.about(8), 2);
        Units.event(x, x.about(10) - 1, 41, 7, 1);
    }
}
