import java.util.NoSuchElementException;

/**
 * The control of a level crossing with two tracks, tick by tick. The document's numbered promises
 * say what it does; "step n" in a comment is a step of the document's list of what a tick does.
 */
public final class CrossingUnit {
    public static final int NONE = -1;

    private static final int TRACKS = 2;
    private static final int HEADS = 4;
    private static final int SECTIONS = 3;
    private static final int ENDS = 2;
    private static final int BARRIERS = 2;
    private static final int LAMPS = 3;

    private static final int MIDDLE = 1;
    private static final int RED_ONE = 1;
    private static final int RED_TWO = 2;

    private static final int FORWARD = 1;
    private static final int BACK = -1;
    private static final int NO_PULSE = 0;
    private static final int NOBODY = 0;

    private static final int FREE = 0;
    private static final int OCCUPIED = 1;
    private static final int DISTURBED = 2;

    private static final int OPEN = 0;
    private static final int AMBER = 1;
    private static final int RED = 2;
    private static final int LOWERING = 3;
    private static final int DOWN = 4;
    private static final int RAISING = 5;

    private static final int MOTOR_DOWN = -1;
    private static final int MOTOR_OFF = 0;
    private static final int MOTOR_UP = 1;
    private static final int LOWEST = 0;
    private static final int HIGHEST = 100;

    private static final int MOST_AXLES = 400;
    private static final int COMING_TICKS = 214;
    private static final int AMBER_TICKS = 30;
    private static final int RED_TICKS = 80;
    private static final int QUIET_TICKS = 30;
    private static final int PROVING_ZEROS = 5;
    private static final int ALARM_STALL = 61;
    private static final int DEAD_DARK = 3;
    private static final int BEAT = 5;
    private static final int NIGHT_BEAT = 10;
    private static final int MOST_TICKS = 1000;

    private static final int ORDER_TAKEN = 0;
    private static final int ORDER_STANDS = 1;
    private static final int ORDER_TRACK_DISTURBED = 2;
    private static final int ORDER_MIDDLE_OCCUPIED = 3;
    private static final int ORDER_ALARM = 4;

    private static final int EVENT_DISTURBED = 1;
    private static final int EVENT_RESET = 2;
    private static final int EVENT_ROAD = 3;
    private static final int EVENT_CLEARS = 4;
    private static final int EVENT_STOPS = 5;
    private static final int EVENT_ALARM = 6;
    private static final int EVENT_LAMP_DEAD = 7;
    private static final int EVENT_ORDER_TAKEN = 8;
    private static final int EVENT_ORDER_USED = 9;

    private static final int LAMP_BIT = 1;
    private static final int BELL_BIT = 1 << 3;
    private static final int DOWN_BIT = 1 << 4;
    private static final int UP_BIT = 1 << 5;
    private static final int SIGNAL_BIT = 1 << 8;
    private static final int ALARM_BIT = 1 << 10;

    private final Track[] tracks = new Track[TRACKS];
    private final Barrier[] barriers = new Barrier[BARRIERS];
    private final Lamp[] lamps = new Lamp[LAMPS];
    private final Road road = new Road();
    private final Journal journal = new Journal();
    private int time = 0;
    private int output = 0;
    private boolean atNight = false;
    private boolean bellRings = false;
    private boolean proved = false;

    public CrossingUnit() {
        for (int t = 0; t < TRACKS; t++) {
            tracks[t] = new Track(t);
        }
        for (int b = 0; b < BARRIERS; b++) {
            barriers[b] = new Barrier();
        }
        for (int l = 0; l < LAMPS; l++) {
            lamps[l] = new Lamp();
        }
    }

    public void pulse(int track, int head, int direction)
            throws NoSuchElementException, IllegalArgumentException, IllegalStateException {
        Track on = findTrack(track);
        checkHead(head);
        if (direction != FORWARD && direction != BACK) {
            throw new IllegalArgumentException("a direction is 1 or -1");
        }
        if (on.kept[head] != NO_PULSE) {
            throw new IllegalStateException("the head has a pulse that is kept");
        }
        on.kept[head] = direction;
    }

    public boolean health(int track, int head, boolean ok) throws NoSuchElementException {
        Track on = findTrack(track);
        checkHead(head);
        boolean differs = on.healthy[head] != ok;
        on.healthy[head] = ok;
        if (!ok) {
            disturbIfThere(on, head - 1);
            disturbIfThere(on, head);
        }
        return differs;
    }

    public int tick() {
        time++;
        rememberBalances();
        countPulses();
        followComings();
        useUpOrders();
        watchLamps();
        watchBarriers();
        moveRoad();
        driveMotors();
        lightLamps();
        bellRings = bellIsDue();
        setSignals();
        output = gatherOutput();
        return output;
    }

    public int ticks(int n) throws IllegalArgumentException {
        if (n < 0 || n > MOST_TICKS) {
            throw new IllegalArgumentException("0 to 1000 ticks");
        }
        for (int i = 0; i < n; i++) {
            tick();
        }
        return output;
    }

    public int barrier(int b, int position)
            throws NoSuchElementException, IllegalArgumentException {
        if (b < 0 || b >= BARRIERS) {
            throw new NoSuchElementException("no such barrier");
        }
        if (position < LOWEST || position > HIGHEST) {
            throw new IllegalArgumentException("a position is 0 to 100");
        }
        int was = barriers[b].position;
        barriers[b].position = position;
        return was;
    }

    public boolean current(int lamp, boolean on) throws NoSuchElementException {
        if (lamp < 0 || lamp >= LAMPS) {
            throw new NoSuchElementException("no such lamp");
        }
        boolean differs = lamps[lamp].hasCurrent != on;
        lamps[lamp].hasCurrent = on;
        return differs;
    }

    public boolean night(boolean is) {
        boolean differs = atNight != is;
        atNight = is;
        return differs;
    }

    public int order(int track) throws NoSuchElementException {
        Track on = findTrack(track);
        if (on.ordered) {
            return ORDER_STANDS;
        }
        if (on.isDisturbed()) {
            return ORDER_TRACK_DISTURBED;
        }
        if (on.sections[MIDDLE].state() == OCCUPIED) {
            return ORDER_MIDDLE_OCCUPIED;
        }
        if (isAlarmed()) {
            return ORDER_ALARM;
        }
        on.ordered = true;
        journal.add(time, EVENT_ORDER_TAKEN, track);
        return ORDER_TAKEN;
    }

    public boolean cancel(int track) throws NoSuchElementException {
        Track on = findTrack(track);
        boolean stood = on.ordered;
        on.ordered = false;
        return stood;
    }

    public void ask(int track, int section, int who)
            throws NoSuchElementException, IllegalStateException {
        Section asked = findSection(track, section);
        checkPerson(who);
        if (!asked.disturbed) {
            throw new IllegalStateException("the section is not disturbed");
        }
        asked.startSweep(who);
    }

    public boolean confirm(int track, int section, int who)
            throws NoSuchElementException, IllegalStateException {
        Section confirmed = findSection(track, section);
        checkPerson(who);
        if (confirmed.asker == NOBODY || confirmed.asker == who) {
            throw new IllegalStateException("someone else has to have asked");
        }
        if (!confirmed.isSwept() || !tracks[track].hasHealthyHeads(section)) {
            return false;
        }
        confirmed.reset();
        journal.add(time, EVENT_RESET, confirmed.number);
        return true;
    }

    public int section(int track, int section, int what)
            throws NoSuchElementException, IllegalArgumentException {
        Section of = findSection(track, section);
        switch (what) {
            case 0:
                return of.state();
            case 1:
                return of.balance;
            case 2:
                return of.isSwept() ? 1 : 0;
            case 3:
                return of.asker;
            default:
                throw new IllegalArgumentException("of a section there is 0 to 3");
        }
    }

    public int earliest(int track) throws NoSuchElementException {
        Track on = findTrack(track);
        int one = on.ends[0].coming;
        int other = on.ends[1].coming;
        if (one == NONE) {
            return other;
        }
        return other == NONE ? one : Math.min(one, other);
    }

    public int about(int what) throws IllegalArgumentException {
        switch (what) {
            case 0:
                return road.step;
            case 1:
                return road.age;
            case 2:
                return road.quiet;
            case 3:
                return proved ? 1 : 0;
            case 4:
                return output;
            case 5:
                return time;
            case 6:
                return barriers[0].stall;
            case 7:
                return barriers[1].stall;
            case 8:
                return deadLamps();
            case 9:
                return standingOrders();
            case 10:
                return journal.total;
            default:
                throw new IllegalArgumentException("there is 0 to 10 to be asked about");
        }
    }

    public int event(int i, int what) throws NoSuchElementException, IllegalArgumentException {
        if (!journal.keeps(i)) {
            throw new NoSuchElementException("no such event is kept");
        }
        int at = i & Journal.PLACES;
        switch (what) {
            case 0:
                return journal.times[at];
            case 1:
                return journal.kinds[at];
            case 2:
                return journal.subjects[at];
            default:
                throw new IllegalArgumentException("of an event there is 0 to 2");
        }
    }

    private Track findTrack(int track) {
        if (track < 0 || track >= TRACKS) {
            throw new NoSuchElementException("no such track");
        }
        return tracks[track];
    }

    private Section findSection(int track, int section) {
        Track on = findTrack(track);
        if (section < 0 || section >= SECTIONS) {
            throw new NoSuchElementException("no such section");
        }
        return on.sections[section];
    }

    private static void checkHead(int head) {
        if (head < 0 || head >= HEADS) {
            throw new NoSuchElementException("no such head");
        }
    }

    private static void checkPerson(int who) {
        if (who <= NOBODY) {
            throw new NoSuchElementException("persons are counted from 1");
        }
    }

    private void disturbIfThere(Track track, int section) {
        if (section >= 0 && section < SECTIONS) {
            disturb(track.sections[section]);
        }
    }

    /** A section that is disturbed already does not become so: no event, and who has asked stays. */
    private void disturb(Section section) {
        if (!section.disturbed) {
            section.disturbed = true;
            journal.add(time, EVENT_DISTURBED, section.number);
        }
    }

    /** Steps 2 and 3 look back at the balances that step 1 changes. */
    private void rememberBalances() {
        for (int t = 0; t < TRACKS; t++) {
            for (int s = 0; s < SECTIONS; s++) {
                tracks[t].sections[s].rememberBalance();
            }
        }
    }

    private void countPulses() {
        for (int t = 0; t < TRACKS; t++) {
            for (int h = 0; h < HEADS; h++) {
                int direction = tracks[t].takePulse(h);
                if (direction != NO_PULSE && tracks[t].healthy[h]) {
                    countAxle(tracks[t], h, direction);
                }
            }
        }
    }

    private void countAxle(Track track, int head, int direction) {
        int left = direction == FORWARD ? head - 1 : head;
        int entered = left + direction;
        if (left >= 0 && left < SECTIONS) {
            track.sections[left].countOut(direction);
            disturbIfMiscounted(track.sections[left]);
        } else {
            track.ends[direction == FORWARD ? 0 : 1].entered = true;
        }
        if (entered >= 0 && entered < SECTIONS) {
            track.sections[entered].countIn(direction);
            disturbIfMiscounted(track.sections[entered]);
        }
    }

    private void disturbIfMiscounted(Section section) {
        if (section.balance < 0 || section.balance > MOST_AXLES) {
            disturb(section);
        }
    }

    private void followComings() {
        for (int t = 0; t < TRACKS; t++) {
            for (int e = 0; e < ENDS; e++) {
                tracks[t].ends[e].follow();
            }
        }
    }

    private void useUpOrders() {
        for (int t = 0; t < TRACKS; t++) {
            Section middle = tracks[t].sections[MIDDLE];
            if (tracks[t].ordered && middle.balance > 0 && middle.balanceAhead == 0) {
                tracks[t].ordered = false;
                journal.add(time, EVENT_ORDER_USED, t);
            }
        }
    }

    private void watchLamps() {
        for (int l = 0; l < LAMPS; l++) {
            if (lamps[l].dies()) {
                journal.add(time, EVENT_LAMP_DEAD, l);
            }
        }
    }

    private void watchBarriers() {
        for (int b = 0; b < BARRIERS; b++) {
            if (barriers[b].startsAlarm()) {
                journal.add(time, EVENT_ALARM, b);
            }
        }
        proved = barriers[0].zeros >= PROVING_ZEROS && barriers[1].zeros >= PROVING_ZEROS;
    }

    private void moveRoad() {
        if (road.moves(isDemanded(), proved, isUp())) {
            journal.add(time, EVENT_ROAD, road.step);
        }
    }

    private boolean isDemanded() {
        for (int t = 0; t < TRACKS; t++) {
            if (tracks[t].ordered || !tracks[t].isFree()) {
                return true;
            }
        }
        return false;
    }

    private boolean isUp() {
        return barriers[0].position == HIGHEST && barriers[1].position == HIGHEST;
    }

    private boolean isAlarmed() {
        return barriers[0].alarmed || barriers[1].alarmed;
    }

    private void driveMotors() {
        for (int b = 0; b < BARRIERS; b++) {
            barriers[b].drive(road.step);
        }
    }

    private void lightLamps() {
        boolean red = road.step >= RED;
        boolean first = isEven(time / BEAT);
        lamps[0].lit = road.step == AMBER;
        lamps[RED_ONE].lit = red && first;
        lamps[RED_TWO].lit = red && !first;
    }

    private boolean bellIsDue() {
        boolean stepRings = road.step == AMBER || road.step == RED
                || (road.step == LOWERING && !atNight);
        return stepRings && isEven(time / (atNight ? NIGHT_BEAT : BEAT));
    }

    private static boolean isEven(int number) {
        return (number & 1) == 0;
    }

    private void setSignals() {
        for (int t = 0; t < TRACKS; t++) {
            boolean clears = signalIsDue(tracks[t]);
            if (clears != tracks[t].cleared) {
                tracks[t].cleared = clears;
                journal.add(time, clears ? EVENT_CLEARS : EVENT_STOPS, t);
            }
        }
    }

    private boolean signalIsDue(Track track) {
        return track.ordered
                && road.step == DOWN
                && proved
                && !track.isDisturbed()
                && track.sections[MIDDLE].state() == FREE
                && !(lamps[RED_ONE].dead && lamps[RED_TWO].dead);
    }

    private int gatherOutput() {
        int bits = bellRings ? BELL_BIT : 0;
        for (int l = 0; l < LAMPS; l++) {
            bits |= lamps[l].lit ? LAMP_BIT << l : 0;
        }
        for (int b = 0; b < BARRIERS; b++) {
            bits |= barriers[b].motor == MOTOR_DOWN ? DOWN_BIT << (2 * b) : 0;
            bits |= barriers[b].motor == MOTOR_UP ? UP_BIT << (2 * b) : 0;
            bits |= barriers[b].alarmed ? ALARM_BIT << b : 0;
        }
        for (int t = 0; t < TRACKS; t++) {
            bits |= tracks[t].cleared ? SIGNAL_BIT << t : 0;
        }
        return bits;
    }

    private int deadLamps() {
        int bits = 0;
        for (int l = 0; l < LAMPS; l++) {
            bits |= lamps[l].dead ? 1 << l : 0;
        }
        return bits;
    }

    private int standingOrders() {
        int bits = 0;
        for (int t = 0; t < TRACKS; t++) {
            bits |= tracks[t].ordered ? 1 << t : 0;
        }
        return bits;
    }

    private static final class Section {
        final int number;
        int balance = 0;
        int balanceAhead = 0;
        boolean disturbed = false;
        int asker = NOBODY;
        int forwardIn = 0;
        int forwardOut = 0;
        int backIn = 0;
        int backOut = 0;

        Section(int number) {
            this.number = number;
        }

        int state() {
            if (disturbed) {
                return DISTURBED;
            }
            return balance != 0 ? OCCUPIED : FREE;
        }

        void rememberBalance() {
            balanceAhead = balance;
        }

        void countIn(int direction) {
            balance++;
            if (direction == FORWARD) {
                forwardIn++;
            } else {
                backIn++;
            }
        }

        void countOut(int direction) {
            balance--;
            if (direction == FORWARD) {
                forwardOut++;
            } else {
                backOut++;
            }
        }

        void startSweep(int who) {
            asker = who;
            forwardIn = 0;
            forwardOut = 0;
            backIn = 0;
            backOut = 0;
        }

        /** What was counted means nothing unless someone has asked: the counts run on regardless. */
        boolean isSwept() {
            return asker != NOBODY
                    && (isSweep(forwardIn, forwardOut, backIn, backOut)
                            || isSweep(backIn, backOut, forwardIn, forwardOut));
        }

        private static boolean isSweep(int in, int out, int againstIn, int againstOut) {
            return in != 0 && in == out && againstIn == 0 && againstOut == 0;
        }

        void reset() {
            disturbed = false;
            balance = 0;
            asker = NOBODY;
        }
    }

    private static final class End {
        final Section section;
        int coming = NONE;
        boolean entered = false;

        End(Section section) {
            this.section = section;
        }

        void follow() {
            if (entered && section.balanceAhead == 0 && coming == NONE) {
                coming = COMING_TICKS;
            } else if (coming != NONE) {
                coming = section.balance == 0 ? NONE : Math.max(coming - 1, 0);
            }
            entered = false;
        }
    }

    private static final class Track {
        final Section[] sections = new Section[SECTIONS];
        final End[] ends = new End[ENDS];
        final int[] kept = new int[HEADS];
        final boolean[] healthy = new boolean[HEADS];
        boolean ordered = false;
        boolean cleared = false;

        Track(int number) {
            for (int s = 0; s < SECTIONS; s++) {
                sections[s] = new Section(SECTIONS * number + s);
            }
            for (int h = 0; h < HEADS; h++) {
                healthy[h] = true;
            }
            ends[0] = new End(sections[0]);
            ends[1] = new End(sections[SECTIONS - 1]);
        }

        int takePulse(int head) {
            int direction = kept[head];
            kept[head] = NO_PULSE;
            return direction;
        }

        boolean isDisturbed() {
            for (int s = 0; s < SECTIONS; s++) {
                if (sections[s].disturbed) {
                    return true;
                }
            }
            return false;
        }

        boolean isFree() {
            for (int s = 0; s < SECTIONS; s++) {
                if (sections[s].state() != FREE) {
                    return false;
                }
            }
            return true;
        }

        boolean hasHealthyHeads(int section) {
            return healthy[section] && healthy[section + 1];
        }
    }

    private static final class Barrier {
        int position = HIGHEST;
        int positionBefore = HIGHEST;
        int motor = MOTOR_OFF;
        int zeros = 0;
        int stall = 0;
        boolean alarmed = false;

        /** Step 5; the motor is still as the tick before left it. */
        boolean startsAlarm() {
            boolean moved = position != positionBefore;
            positionBefore = position;
            zeros = position == LOWEST ? zeros + 1 : 0;
            stall = motor != MOTOR_OFF && !moved ? stall + 1 : 0;
            if (moved) {
                alarmed = false;
            }
            if (stall != ALARM_STALL) {
                return false;
            }
            alarmed = true;
            return true;
        }

        void drive(int step) {
            motor = MOTOR_OFF;
            if (alarmed) {
                return;
            }
            if ((step == LOWERING || step == DOWN) && position != LOWEST) {
                motor = MOTOR_DOWN;
            } else if ((step == RAISING || step == OPEN) && position != HIGHEST) {
                motor = MOTOR_UP;
            }
        }
    }

    private static final class Lamp {
        boolean hasCurrent = true;
        boolean lit = false;
        boolean dead = false;
        int dark = 0;

        /** Step 4; a lamp that is not lit tells nothing, so it stays as dark and dead as it was. */
        boolean dies() {
            if (!lit) {
                return false;
            }
            if (hasCurrent) {
                dark = 0;
                dead = false;
                return false;
            }
            dark++;
            if (dark != DEAD_DARK) {
                return false;
            }
            dead = true;
            return true;
        }
    }

    private static final class Road {
        int step = OPEN;
        int age = 0;
        int quiet = 0;

        boolean moves(boolean demanded, boolean proved, boolean up) {
            age++;
            // The tick with which DOWN comes belongs to the step before: it is not a quiet one.
            quiet = step == DOWN && !demanded ? quiet + 1 : 0;
            int next = stepToCome(demanded, proved, up);
            if (next == step) {
                return false;
            }
            step = next;
            age = 0;
            quiet = 0;
            return true;
        }

        private int stepToCome(boolean demanded, boolean proved, boolean up) {
            switch (step) {
                case OPEN:
                    return demanded ? AMBER : OPEN;
                case AMBER:
                    return age >= AMBER_TICKS ? RED : AMBER;
                case RED:
                    return age >= RED_TICKS ? LOWERING : RED;
                case LOWERING:
                    return proved ? DOWN : LOWERING;
                case DOWN:
                    return quiet >= QUIET_TICKS ? RAISING : DOWN;
                default:
                    if (demanded) {
                        return LOWERING;
                    }
                    return up ? OPEN : RAISING;
            }
        }
    }

    /** A ring, so that what is kept does not grow with the events that come. */
    private static final class Journal {
        static final int KEPT = 64;
        /** A mask, as KEPT is a power of two: the place is in bounds whatever the number is. */
        static final int PLACES = KEPT - 1;

        final int[] times = new int[KEPT];
        final int[] kinds = new int[KEPT];
        final int[] subjects = new int[KEPT];
        int total = 0;

        void add(int time, int kind, int subject) {
            int at = total & PLACES;
            times[at] = time;
            kinds[at] = kind;
            subjects[at] = subject;
            total++;
        }

        boolean keeps(int i) {
            return i >= 0 && i < total && i >= total - KEPT;
        }
    }
}
