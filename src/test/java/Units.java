/** Crossings in states that many tests start from, and all that can be read of one. */
final class Units {
    private Units() {
    }

    /** Time 116: an order for the track stands, the road is DOWN and its signal is clear. */
    static CrossingUnit shut(int track) {
        CrossingUnit x = new CrossingUnit();
        x.order(track);
        x.ticks(111);
        x.barrier(0, 0);
        x.barrier(1, 0);
        x.ticks(5);
        return x;
    }

    /** Time 172: an order for track 1 stands, the road is LOWERING, both barriers have an alarm. */
    static CrossingUnit alarmed() {
        CrossingUnit x = new CrossingUnit();
        x.order(1);
        x.ticks(172);
        return x;
    }

    static int pulseAndTick(CrossingUnit x, int track, int head, int direction) {
        x.pulse(track, head, direction);
        return x.tick();
    }

    static void event(CrossingUnit x, int i, int time, int what, int which) {
        Check.same("time of event " + i, x.event(i, 0), time);
        Check.same("what of event " + i, x.event(i, 1), what);
        Check.same("which of event " + i, x.event(i, 2), which);
    }

    static String sections(CrossingUnit x) {
        StringBuilder text = new StringBuilder();
        for (int track = 0; track < 2; track++) {
            for (int section = 0; section < 3; section++) {
                text.append(track).append('/').append(section).append(':');
                for (int what = 0; what < 4; what++) {
                    text.append(x.section(track, section, what)).append(what < 3 ? ',' : ' ');
                }
            }
        }
        return text.toString();
    }

    static String about(CrossingUnit x) {
        StringBuilder text = new StringBuilder("about");
        for (int what = 0; what < 11; what++) {
            text.append(' ').append(x.about(what));
        }
        return text.toString();
    }

    /** 37 calls and three for each event that is kept: an object has 512 in all. */
    static String all(CrossingUnit x) {
        StringBuilder text = new StringBuilder(sections(x)).append(about(x));
        text.append(" earliest ").append(x.earliest(0)).append(' ').append(x.earliest(1));
        int total = x.about(10);
        for (int i = Math.max(0, total - 64); i < total; i++) {
            text.append(" [").append(x.event(i, 0)).append(' ').append(x.event(i, 1)).append(' ')
                    .append(x.event(i, 2)).append(']');
        }
        return text.toString();
    }
}
