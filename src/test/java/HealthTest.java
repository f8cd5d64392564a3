/** Promise 3. */
final class HealthTest {
    public static void main(String[] args) {
        answersWhetherItWasNotSo();
        disturbsBothSectionsAtOnce();
        healthyDisturbsNothing();
        toldOnceMore();
        toldOnceMoreOfEveryHead();
        disturbsWhatIsOccupied();
        wrongInputs();
        Check.end();
    }

    private static void answersWhetherItWasNotSo() {
        CrossingUnit x = new CrossingUnit();
        Check.no("healthy", x.health(0, 1, true));
        Check.yes("not healthy", x.health(0, 1, false));
        Check.no("not healthy again", x.health(0, 1, false));
        Check.no("another head", x.health(0, 2, true));
        Check.no("another track", x.health(1, 1, true));
        Check.yes("healthy again", x.health(0, 1, true));
        Check.no("healthy still", x.health(0, 1, true));
    }

    private static void disturbsBothSectionsAtOnce() {
        int[][] due = {{2, 0, 0}, {2, 2, 0}, {0, 2, 2}, {0, 0, 2}};
        for (int track = 0; track < 2; track++) {
            for (int head = 0; head < 4; head++) {
                CrossingUnit x = new CrossingUnit();
                x.health(track, head, false);
                int events = 0;
                for (int s = 0; s < 3; s++) {
                    String what = "head " + track + " " + head + ", section " + s;
                    Check.same(what, x.section(track, s, 0), due[head][s]);
                    Check.same(what + ", its balance", x.section(track, s, 1), 0);
                    Check.same(what + ", the other track", x.section(1 - track, s, 0), 0);
                    if (due[head][s] == 2) {
                        Units.event(x, events++, 0, 1, 3 * track + s);
                    }
                }
                Check.same("events", x.about(10), events);
            }
        }
    }

    private static void healthyDisturbsNothing() {
        CrossingUnit x = new CrossingUnit();
        x.health(0, 1, true);
        Check.same("free", x.section(0, 0, 0) + x.section(0, 1, 0), 0);
        x.health(0, 1, false);
        x.health(0, 1, true);
        Check.same("disturbed till it is reset", x.section(0, 0, 0) + x.section(0, 1, 0), 4);
        Check.same("events", x.about(10), 2);
    }

    private static void toldOnceMore() {
        CrossingUnit x = new CrossingUnit();
        x.health(0, 1, false);
        x.ask(0, 1, 7);
        x.health(0, 1, false);
        Check.same("who has asked stays", x.section(0, 1, 3), 7);
        Check.same("what is disturbed does not become so", x.about(10), 2);
        x.tick();
        x.health(0, 2, false);
        Check.same("the section above becomes so", x.section(0, 2, 0), 2);
        Units.event(x, 3, 1, 1, 2);
        Check.same("alone", x.about(10), 4);
    }

    /** No section of an unhealthy head can be reset, so there is nothing else to see of it. */
    private static void toldOnceMoreOfEveryHead() {
        for (int track = 0; track < 2; track++) {
            for (int head = 0; head < 4; head++) {
                CrossingUnit x = new CrossingUnit();
                Check.yes("told", x.health(track, head, false));
                String sections = Units.sections(x);
                Check.no("told once more", x.health(track, head, false));
                Check.same("they are disturbed", Units.sections(x), sections);
                x.tick();
                Check.no("told at another time", x.health(track, head, false));
                Check.same("they are disturbed still", Units.sections(x), sections);
                Check.yes("healthy", x.health(track, head, true));
                Check.yes("told anew", x.health(track, head, false));
            }
        }
    }

    private static void disturbsWhatIsOccupied() {
        CrossingUnit x = new CrossingUnit();
        Units.pulseAndTick(x, 1, 0, 1);
        Units.pulseAndTick(x, 1, 0, 1);
        x.health(1, 0, false);
        Check.same("state", x.section(1, 0, 0), 2);
        Check.same("its balance stays", x.section(1, 0, 1), 2);
    }

    private static void wrongInputs() {
        CrossingUnit x = new CrossingUnit();
        for (int track : new int[] {-1, 2, Integer.MIN_VALUE, Integer.MAX_VALUE}) {
            Check.noSuch("track " + track, () -> x.health(track, 0, false));
        }
        for (int head : new int[] {-1, 4, Integer.MIN_VALUE, Integer.MAX_VALUE}) {
            Check.noSuch("head " + head, () -> x.health(0, head, false));
            Check.noSuch("head " + head, () -> x.health(1, head, true));
        }
        Check.same("nothing changed", Units.all(x), Units.all(new CrossingUnit()));
    }
}
