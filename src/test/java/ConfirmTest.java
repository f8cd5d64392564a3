/** Promise 12. */
final class ConfirmTest {
    public static void main(String[] args) {
        resets();
        sweepsThatAreOne();
        sweepsThatAreNone();
        asManyOutAsIn();
        anUnhealthyHeadSweepsNothing();
        bothHeadsHaveToBeHealthy();
        canBeDoneAgain();
        disturbedAnewNeedsAllAnew();
        wrongInputs();
        Check.end();
    }

    private static CrossingUnit asked(int track, int section, int who) {
        CrossingUnit x = new CrossingUnit();
        x.health(track, section, false);
        x.health(track, section, true);
        x.ask(track, section, who);
        return x;
    }

    /** Each pair of numbers is a head and a direction, a tick behind each. */
    private static void drive(CrossingUnit x, int track, int... pulses) {
        for (int i = 0; i < pulses.length; i += 2) {
            Units.pulseAndTick(x, track, pulses[i], pulses[i + 1]);
        }
    }

    private static void resets() {
        CrossingUnit x = asked(1, 1, 5);
        drive(x, 1, 1, 1, 1, 1, 2, 1, 2, 1);
        int events = x.about(10);
        Check.yes("reset", x.confirm(1, 1, 6));
        Check.same("free, nobody has asked", Units.sections(x),
                "0/0:0,0,0,0 0/1:0,0,0,0 0/2:0,0,0,0 1/0:2,-2,0,0 1/1:0,0,0,0 1/2:1,2,0,0 ");
        Units.event(x, events, 4, 2, 4);
        Check.same("one event", x.about(10), events + 1);
        Check.badState("nobody has asked then", () -> x.confirm(1, 1, 6));
        Check.badState("it is not disturbed then", () -> x.ask(1, 1, 6));
    }

    private static void sweepsThatAreOne() {
        for (int track = 0; track < 2; track++) {
            for (int section = 0; section < 3; section++) {
                CrossingUnit forward = asked(track, section, 1);
                drive(forward, track, section, 1, section + 1, 1);
                Check.same("forward", forward.section(track, section, 2), 1);
                Check.yes("forward", forward.confirm(track, section, 2));
                CrossingUnit back = asked(track, section, 1);
                drive(back, track, section + 1, -1, section, -1);
                Check.same("back", back.section(track, section, 2), 1);
                Check.yes("back", back.confirm(track, section, 2));
            }
        }
        CrossingUnit outFirst = asked(0, 1, 1);
        drive(outFirst, 0, 2, 1, 1, 1);
        Check.yes("what matters is how many", outFirst.confirm(0, 1, 2));
        CrossingUnit occupied = new CrossingUnit();
        drive(occupied, 0, 0, 1, 0, 1, 0, 1);
        occupied.health(0, 0, false);
        occupied.health(0, 0, true);
        occupied.ask(0, 0, 1);
        drive(occupied, 0, 0, 1, 1, 1);
        Check.same("a balance that is left", occupied.section(0, 0, 1), 3);
        Check.yes("is swept away", occupied.confirm(0, 0, 2));
        Check.same("it is 0", occupied.section(0, 0, 1), 0);
        Check.same("and free", occupied.section(0, 0, 0), 0);
    }

    private static void notSwept(String what, int... pulses) {
        CrossingUnit x = asked(0, 1, 1);
        drive(x, 0, pulses);
        String before = Units.all(x);
        Check.same(what, x.section(0, 1, 2), 0);
        Check.no(what, x.confirm(0, 1, 2));
        Check.same(what + ": nothing changes", Units.all(x), before);
    }

    private static void sweepsThatAreNone() {
        notSwept("nothing");
        notSwept("in below alone", 1, 1);
        notSwept("out above alone", 2, 1);
        notSwept("in above alone", 2, -1);
        notSwept("out below alone", 1, -1);
        notSwept("two in, one out", 1, 1, 1, 1, 2, 1);
        notSwept("one in, two out", 1, 1, 2, 1, 2, 1);
        notSwept("in and out below", 1, 1, 1, -1);
        notSwept("in and out above", 2, -1, 2, 1);
        notSwept("forward, and in above", 1, 1, 2, 1, 2, -1);
        notSwept("forward, and out below", 1, 1, 2, 1, 1, -1);
        notSwept("back, and in below", 2, -1, 1, -1, 1, 1);
        notSwept("back, and out above", 2, -1, 1, -1, 2, 1);
        notSwept("forward and back", 1, 1, 2, 1, 2, -1, 1, -1);
        notSwept("past the next sections", 0, 1, 3, 1);
    }

    private static void asManyOutAsIn(int in, int out, int direction) {
        CrossingUnit x = asked(1, 1, 1);
        for (int i = 0; i < in; i++) {
            drive(x, 1, direction == 1 ? 1 : 2, direction);
        }
        for (int i = 0; i < out; i++) {
            drive(x, 1, direction == 1 ? 2 : 1, direction);
        }
        String what = in + " in, " + out + " out, by " + direction;
        boolean swept = in == out && in != 0;
        Check.same(what, x.section(1, 1, 2), swept ? 1 : 0);
        Check.same(what, x.confirm(1, 1, 2) ? 1 : 0, swept ? 1 : 0);
        Check.same(what, x.section(1, 1, 0), swept ? 0 : 2);
    }

    private static void asManyOutAsIn() {
        for (int in : new int[] {0, 1, 2, 40}) {
            for (int out = Math.max(0, in - 1); out <= in + 1; out++) {
                asManyOutAsIn(in, out, 1);
                asManyOutAsIn(in, out, -1);
            }
        }
    }

    private static void anUnhealthyHeadSweepsNothing() {
        CrossingUnit x = asked(0, 1, 1);
        drive(x, 0, 1, 1);
        x.health(0, 2, false);
        drive(x, 0, 2, 1);
        Check.same("the pulse is gone", x.section(0, 1, 2), 0);
        x.health(0, 2, true);
        Check.no("so it is not swept", x.confirm(0, 1, 2));
        drive(x, 0, 2, 1);
        Check.yes("till one counts", x.confirm(0, 1, 2));
    }

    private static void bothHeadsHaveToBeHealthy() {
        for (int head = 0; head < 4; head++) {
            CrossingUnit x = asked(0, 1, 1);
            drive(x, 0, 1, 1, 2, 1);
            x.health(0, head, false);
            Check.same("swept all the same", x.section(0, 1, 2), 1);
            boolean own = head == 1 || head == 2;
            Check.same("head " + head, x.confirm(0, 1, 2) ? 1 : 0, own ? 0 : 1);
            if (own) {
                x.health(0, head, true);
                Check.yes("healthy again", x.confirm(0, 1, 2));
            }
        }
        CrossingUnit x = asked(0, 1, 1);
        drive(x, 0, 1, 1, 2, 1);
        x.health(1, 1, false);
        x.health(1, 2, false);
        Check.yes("the other track's heads", x.confirm(0, 1, 2));
    }

    private static void canBeDoneAgain() {
        CrossingUnit x = asked(0, 0, 1);
        Check.no("not yet", x.confirm(0, 0, 2));
        drive(x, 0, 0, 1);
        Check.no("half", x.confirm(0, 0, 2));
        Check.same("who has asked stays", x.section(0, 0, 3), 1);
        drive(x, 0, 1, 1);
        Check.yes("by another one", x.confirm(0, 0, 3));
    }

    private static void disturbedAnewNeedsAllAnew() {
        CrossingUnit x = asked(0, 0, 1);
        drive(x, 0, 0, 1, 1, 1);
        x.confirm(0, 0, 2);
        int events = x.about(10);
        x.health(0, 0, false);
        x.health(0, 0, true);
        Units.event(x, events, 2, 1, 0);
        Check.same("not swept", x.section(0, 0, 2), 0);
        Check.same("nobody has asked", x.section(0, 0, 3), 0);
        Check.badState("so nobody can confirm", () -> x.confirm(0, 0, 2));
        x.ask(0, 0, 2);
        Check.no("the old sweep is gone", x.confirm(0, 0, 1));
    }

    private static void wrongInputs() {
        CrossingUnit x = asked(0, 1, 3);
        drive(x, 0, 1, 1, 2, 1);
        String before = Units.all(x);
        for (int track : new int[] {-1, 2, Integer.MIN_VALUE, Integer.MAX_VALUE}) {
            Check.noSuch("track " + track, () -> x.confirm(track, 1, 4));
        }
        for (int section : new int[] {-1, 3, Integer.MIN_VALUE, Integer.MAX_VALUE}) {
            Check.noSuch("section " + section, () -> x.confirm(0, section, 4));
        }
        for (int who : new int[] {0, -1, Integer.MIN_VALUE}) {
            Check.noSuch("who " + who, () -> x.confirm(0, 1, who));
            Check.noSuch("who goes ahead of nobody", () -> x.confirm(1, 1, who));
        }
        Check.badState("who has asked", () -> x.confirm(0, 1, 3));
        Check.badState("disturbed, nobody has asked", () -> x.confirm(0, 0, 4));
        Check.badState("free, nobody has asked", () -> x.confirm(1, 2, 4));
        Check.same("nothing changed", Units.all(x), before);
        CrossingUnit unswept = asked(0, 1, 3);
        Check.badState("who has asked, not swept", () -> unswept.confirm(0, 1, 3));
    }
}
