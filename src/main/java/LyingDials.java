import java.util.Arrays;
import java.util.NoSuchElementException;

public final class LyingDials {
    public static final int NONE = -1;

    private static final int DAY_COUNT = 365;
    private static final int MINUTE_COUNT = 1440;
    private static final int MONTH_COUNT = 12;
    private static final int MONTH_LENGTH = 31;
    private static final int MIDDAY = 720;

    private static final int MOST_BYTES = 700;
    private static final int MOST_DIALS = 9;
    private static final int MOST_CLOUDS = 20;
    private static final int MOST_READINGS = 12;
    private static final int MOST_MENDS = 40;
    private static final int MOST_TURN = 120;
    private static final int MOST_WITHIN = 120;

    private static final int EAST = 0;
    private static final int WEST = 1;
    private static final int BOWL = 2;
    private static final int MOON = 3;
    private static final int CANNON = 4;
    private static final int PAINTED = 5;

    private static final int TEXTS = 0;
    private static final int READINGS = 1;
    private static final int SEEN = 2;
    private static final int MENDS = 3;

    private final byte[] tape = new byte[MOST_BYTES];
    private int taped = 0;
    private int faultPlace = NONE;
    private final int[] refused = new int[4];

    private final Scan scan = new Scan();
    private final PortReader portReader = new PortReader();
    private final LawReader lawReader = new LawReader();
    private Port port = new Port();
    private Port sparePort = new Port();
    private Law law = new Law();
    private Law spareLaw = new Law();
    private boolean hasLaw = false;

    private final Notes notes = new Notes();
    private final Notes kept = new Notes();
    private boolean hasImage = false;

    private final Fits fits = new Fits();
    private final Tally tally = new Tally();
    private final int[] tolds = new int[MOST_DIALS];
    private final int[] sorted = new int[MOST_DIALS];
    private final int[] moments = new int[Port.MOST_MOMENTS];

    public LyingDials() {
    }

    public int feed(int a, int b, int c, int d, int e) {
        if (taped + 20 > MOST_BYTES) {
            return NONE;
        }
        putBytes(a);
        putBytes(b);
        putBytes(c);
        putBytes(d);
        putBytes(e);
        return taped;
    }

    private void putBytes(int number) {
        for (int shift = 24; shift >= 0; shift -= 8) {
            if (taped < tape.length) {
                tape[taped] = (byte) (number >> shift);
                taped++;
            }
        }
    }

    public int port(int n) throws IllegalArgumentException {
        needTaped(n);
        taped = 0;
        scan.begin(tape, n);
        if (!portReader.readInto(sparePort, scan)) {
            return refuseText();
        }
        Port read = sparePort;
        sparePort = port;
        port = read;
        notes.clear();
        hasImage = false;
        hasLaw = false;
        faultPlace = NONE;
        return 0;
    }

    public int law(int n) throws IllegalArgumentException {
        needTaped(n);
        taped = 0;
        scan.begin(tape, n);
        if (!lawReader.readInto(spareLaw, scan, port.dials)) {
            return refuseText();
        }
        Law read = spareLaw;
        spareLaw = law;
        law = read;
        hasLaw = true;
        faultPlace = NONE;
        return 0;
    }

    private int refuseText() {
        refused[TEXTS]++;
        faultPlace = scan.place;
        return scan.fault;
    }

    public int lawful(int day, int minute) throws NoSuchElementException, IllegalArgumentException {
        needDay(day);
        needMinute(minute);
        needLaw();
        return lawTells(day, minute);
    }

    /** The dials' row is filled once, as a law may name each of them many times. */
    private int lawTells(int day, int minute) {
        fillTolds(day, minute);
        return law.tellsBy(tolds, day / MONTH_LENGTH);
    }

    public int judged(int minute, int what) throws NoSuchElementException, IllegalArgumentException {
        needMinute(minute);
        needWhat(what, 3);
        needLaw();
        tally.clear();
        int unbeaten = 0;
        for (int day = 0; day < DAY_COUNT; day++) {
            int told = lawTells(day, minute);
            tally.add(day, told, minute);
            if (!isBeaten(told, minute)) {
                unbeaten++;
            }
        }
        switch (what) {
            case 0: return tally.lit;
            case 1: return tally.wrong;
            case 2: return tally.worstDay;
            default: return unbeaten;
        }
    }

    /** By the row of what the dials tell, which lawTells has left. */
    private boolean isBeaten(int told, int minute) {
        int most = told == NONE ? MINUTE_COUNT : wrongBy(told, minute);
        for (int dial = 0; dial < port.dials; dial++) {
            if (tolds[dial] != NONE && wrongBy(tolds[dial], minute) < most) {
                return true;
            }
        }
        return false;
    }

    public int fault() {
        return faultPlace;
    }

    public int count(int what) throws NoSuchElementException {
        if (what >= 20 && what < 20 + MONTH_COUNT) {
            return port.limps[what - 20];
        }
        if (what >= 7 && what <= 10) {
            return refused[what - 7];
        }
        switch (what) {
            case 0: return port.dials;
            case 1: return port.swing;
            case 2: return port.clouds;
            case 3: return notes.readings;
            case 4: return notes.seen;
            case 5: return notes.mends;
            case 6: return taped;
            default: throw new NoSuchElementException("no such count");
        }
    }

    public int dial(int dial, int what) throws NoSuchElementException {
        needDial(dial);
        needWhat(what, 4);
        switch (what) {
            case 0: return port.kinds[dial];
            case 1: return port.turns[dial];
            case 2: return port.tilts[dial];
            case 3: return port.towns[dial];
            default: return port.grown[dial];
        }
    }

    public int day(int day, int what) throws NoSuchElementException {
        needDay(day);
        needWhat(what, 1);
        return what == 0 ? port.noonOf(day) : port.halfOf(day);
    }

    public int tells(int dial, int day, int minute) throws NoSuchElementException {
        needDial(dial);
        needDay(day);
        needMinute(minute);
        return toldNow(dial, day, minute);
    }

    private int toldNow(int dial, int day, int minute) {
        return port.toldBy(dial, day, minute, turnOn(dial, day), port.tilts[dial]);
    }

    public int turn(int dial, int day) throws NoSuchElementException {
        needDial(dial);
        needDay(day);
        return turnOn(dial, day);
    }

    private int turnOn(int dial, int day) {
        return notes.turnBy(dial, day, port.turns[dial]);
    }

    public int read(int dial, int day, int minute, int told) throws NoSuchElementException {
        needDial(dial);
        needDay(day);
        needMinute(minute);
        needMinute(told);
        if (notes.readings >= MOST_READINGS) {
            refused[READINGS]++;
            return NONE;
        }
        return notes.addReading(dial, day, minute, told);
    }

    public int unread() {
        if (notes.readings <= 0) {
            return NONE;
        }
        notes.readings--;
        return notes.readings;
    }

    public int faults(int dial, int what) throws NoSuchElementException, IllegalArgumentException {
        needDial(dial);
        needWhat(what, 4);
        fits.weigh(port, notes, dial);
        if (what == 0) {
            return fits.couples;
        }
        if (fits.couples == 0) {
            throw new IllegalArgumentException("no fault fits");
        }
        switch (what) {
            case 1: return fits.leastTurn();
            case 2: return fits.greatestTurn();
            case 3: return fits.leastTilt();
            default: return fits.greatestTilt();
        }
    }

    public int next(int dial, int day, int what) throws NoSuchElementException {
        needDial(dial);
        needDay(day);
        needWhat(what, 1);
        fits.weigh(port, notes, dial);
        if (fits.couples == 0) {
            return NONE;
        }
        int bestMinute = NONE;
        int bestGroup = NONE;
        for (int minute = 0; minute < MINUTE_COUNT; minute += 15) {
            int group = fits.greatestGroup(port, dial, day, minute);
            if (bestMinute == NONE || group < bestGroup) {
                bestMinute = minute;
                bestGroup = group;
            }
        }
        return what == 0 ? bestMinute : bestGroup;
    }

    public int see(int dial, int told) throws NoSuchElementException {
        needDial(dial);
        needMinute(told);
        if (notes.seenTold[dial] != NONE) {
            refused[SEEN]++;
            return NONE;
        }
        notes.seenTold[dial] = told;
        notes.seen++;
        return notes.seen;
    }

    public int forget() {
        int were = notes.seen;
        notes.clearSeen();
        return were;
    }

    public int minutes(int day, int what) throws NoSuchElementException {
        needDay(day);
        needWhat(what, 2);
        tally.clear();
        addFitting(day);
        switch (what) {
            case 0: return tally.fitting;
            case 1: return tally.leastMinute;
            default: return tally.greatestMinute;
        }
    }

    public int days(int what) throws NoSuchElementException {
        needWhat(what, 2);
        int fitting = 0;
        int firstDay = NONE;
        int firstMinute = NONE;
        for (int day = 0; day < DAY_COUNT; day++) {
            tally.clear();
            addFitting(day);
            fitting += tally.fitting;
            if (firstDay == NONE && tally.fitting > 0) {
                firstDay = day;
                firstMinute = tally.leastMinute;
            }
        }
        switch (what) {
            case 0: return fitting;
            case 1: return firstDay;
            default: return firstMinute;
        }
    }

    /**
     * A dial that isn't painted tells one minute only a few times a day: so one of these guides to the few true
     * minutes that are worth a look, and a walk through all 1440 of them is never needed.
     */
    private void addFitting(int day) {
        int guide = NONE;
        for (int dial = 0; dial < port.dials; dial++) {
            int told = notes.seenTold[dial];
            if (told == NONE) {
                continue;
            }
            if (port.kinds[dial] != PAINTED) {
                guide = dial;
            } else if (toldNow(dial, day, 0) != told) {
                return;
            }
        }
        if (guide == NONE) {
            tally.addAllMinutes();
            return;
        }
        int found = port.findMoments(guide, day, notes.seenTold[guide], turnOn(guide, day), moments);
        for (int i = 0; i < found && i < moments.length; i++) {
            if (allTellAsSeen(day, moments[i])) {
                tally.addMinute(moments[i]);
            }
        }
    }

    private boolean allTellAsSeen(int day, int minute) {
        for (int dial = 0; dial < port.dials; dial++) {
            int told = notes.seenTold[dial];
            if (told != NONE && toldNow(dial, day, minute) != told) {
                return false;
            }
        }
        return true;
    }

    public int late(int a, int b, int x, int day) throws NoSuchElementException {
        needDial(a);
        needDial(b);
        needMinute(x);
        needDay(day);
        return lateOn(a, b, x, day);
    }

    private int lateOn(int a, int b, int x, int day) {
        int one = firstMoment(a, day, x);
        int other = firstMoment(b, day, x);
        if (one == NONE || other == NONE) {
            return NONE;
        }
        return Math.abs(one - other);
    }

    private int firstMoment(int dial, int day, int told) {
        if (port.kinds[dial] == PAINTED) {
            return toldNow(dial, day, 0) == told ? 0 : NONE;
        }
        int found = port.findMoments(dial, day, told, turnOn(dial, day), moments);
        int first = NONE;
        for (int i = 0; i < found && i < moments.length; i++) {
            if (first == NONE || moments[i] < first) {
                first = moments[i];
            }
        }
        return first;
    }

    public int meet(int a, int b, int x, int day, int what) throws NoSuchElementException {
        needDial(a);
        needDial(b);
        needMinute(x);
        needDay(day);
        needWhat(what, 1);
        int bestDay = NONE;
        int leastLate = NONE;
        for (int on = day; on < DAY_COUNT; on++) {
            int late = lateOn(a, b, x, on);
            if (late == NONE) {
                continue;
            }
            if (what == 0) {
                return on;
            }
            if (bestDay == NONE || late < leastLate) {
                bestDay = on;
                leastLate = late;
            }
        }
        return bestDay;
    }

    public int mend(int dial, int day, int turn) throws NoSuchElementException {
        needDial(dial);
        needDay(day);
        boolean turns = turn >= -MOST_TURN && turn <= MOST_TURN;
        if (notes.mends >= MOST_MENDS || port.kinds[dial] == PAINTED || !turns) {
            refused[MENDS]++;
            return NONE;
        }
        return notes.addMend(dial, day, turn);
    }

    public int undo() {
        if (notes.mends <= 0) {
            return NONE;
        }
        notes.mends--;
        return notes.mends;
    }

    public int best(int dial, int minute, int within, int what)
            throws NoSuchElementException, IllegalArgumentException {
        needDial(dial);
        needMinute(minute);
        needWhat(what, 1);
        if (within < 0 || within > MOST_WITHIN) {
            throw new IllegalArgumentException("within 0 to 120 minutes");
        }
        if (port.kinds[dial] == PAINTED) {
            throw new IllegalArgumentException("a painted dial is not mended");
        }
        tally.clearTurns();
        for (int day = 0; day < DAY_COUNT; day++) {
            addRightTurns(dial, day, minute, within);
        }
        int turn = tally.bestTurn(port.turns[dial]);
        return what == 0 ? turn : tally.daysRight;
    }

    /** The turns by which a dial is right on a day are one row without gaps, so that none need be tried singly. */
    private void addRightTurns(int dial, int day, int minute, int within) {
        int plain = port.plainlyTold(dial, day, minute, port.tilts[dial]);
        if (plain == NONE) {
            return;
        }
        if (port.kinds[dial] != CANNON) {
            int off = around(plain - minute);
            tally.addTurns(-within - off, within - off);
        } else if (wrongBy(MIDDAY, minute) <= within) {
            int firing = around(MIDDAY - plain);
            tally.addTurns(firing, firing);
        }
    }

    public int year(int dial, int minute, int what) throws NoSuchElementException {
        needDial(dial);
        needMinute(minute);
        needWhat(what, 1);
        tallyYear(dial, minute);
        return what == 0 ? tally.lit : tally.wrong;
    }

    private void tallyYear(int dial, int minute) {
        tally.clear();
        for (int day = 0; day < DAY_COUNT; day++) {
            tally.add(day, toldNow(dial, day, minute), minute);
        }
    }

    public int live(int minute) throws NoSuchElementException {
        needMinute(minute);
        int chosen = NONE;
        int mostLit = 0;
        int leastWrong = 0;
        for (int dial = 0; dial < port.dials; dial++) {
            tallyYear(dial, minute);
            boolean better = tally.lit > mostLit || (tally.lit == mostLit && tally.wrong < leastWrong);
            if (chosen == NONE || better) {
                chosen = dial;
                mostLit = tally.lit;
                leastWrong = tally.wrong;
            }
        }
        return chosen;
    }

    public int middle(int dials, int day, int minute) throws NoSuchElementException, IllegalArgumentException {
        needDay(day);
        needMinute(minute);
        if (dials < 0 || dials >= 1 << port.dials) {
            throw new IllegalArgumentException("no such dials");
        }
        fillTolds(day, minute);
        return middleOf(tolds, dials, sorted);
    }

    private void fillTolds(int day, int minute) {
        for (int dial = 0; dial < port.dials; dial++) {
            tolds[dial] = toldNow(dial, day, minute);
        }
    }

    public int together(int day, int what) throws NoSuchElementException {
        needDay(day);
        needWhat(what, 1);
        tally.clearGroups();
        for (int minute = 0; minute < MINUTE_COUNT; minute++) {
            tally.addGroup(litDials(day, minute));
        }
        int pair = NONE;
        int most = 0;
        for (int one = 0; one < port.dials; one++) {
            for (int other = one + 1; other < port.dials; other++) {
                int both = tally.minutesOfBoth(one, other);
                if (pair == NONE || both > most) {
                    pair = 10 * one + other;
                    most = both;
                }
            }
        }
        return what == 0 ? pair : most;
    }

    /** Only a cannon is dark by its turn: the others are asked without it, as it is dear to look up. */
    private int litDials(int day, int minute) {
        int bits = 0;
        for (int dial = 0; dial < port.dials; dial++) {
            int told = port.plainlyTold(dial, day, minute, port.tilts[dial]);
            if (told != NONE && port.kinds[dial] == CANNON) {
                told = toldNow(dial, day, minute);
            }
            if (told != NONE) {
                bits |= 1 << dial;
            }
        }
        return bits;
    }

    public int takes(int dial, int day) throws NoSuchElementException {
        needDial(dial);
        needDay(day);
        int taken = 0;
        for (int on = day; on < DAY_COUNT; on++) {
            taken += takenOn(dial, on);
        }
        return taken;
    }

    private int takenOn(int dial, int day) {
        if (port.kinds[dial] == CANNON) {
            return port.findMoments(dial, day, MIDDAY, turnOn(dial, day), moments);
        }
        return port.litMinutes(dial, day);
    }

    public void image() {
        kept.copyFrom(notes);
        hasImage = true;
    }

    public boolean restore() {
        if (!hasImage) {
            return false;
        }
        notes.copyFrom(kept);
        return true;
    }

    private void needTaped(int n) {
        if (n < 0 || n > taped) {
            throw new IllegalArgumentException("the tape has not so many bytes");
        }
    }

    private void needDial(int dial) {
        if (dial < 0 || dial >= port.dials) {
            throw new NoSuchElementException("no such dial");
        }
    }

    private static void needDay(int day) {
        if (day < 0 || day >= DAY_COUNT) {
            throw new NoSuchElementException("no such day");
        }
    }

    private static void needMinute(int minute) {
        if (minute < 0 || minute >= MINUTE_COUNT) {
            throw new NoSuchElementException("no such minute");
        }
    }

    private static void needWhat(int what, int most) {
        if (what < 0 || what > most) {
            throw new NoSuchElementException("no such what");
        }
    }

    private void needLaw() {
        if (!hasLaw) {
            throw new IllegalArgumentException("there is no law");
        }
    }

    private static int wrongBy(int told, int minute) {
        int far = Math.abs(told - minute);
        return Math.min(far, MINUTE_COUNT - far);
    }

    /** The same minutes as they go round from -720 to 719. */
    private static int around(int minutes) {
        return Math.floorMod(minutes + MIDDAY, MINUTE_COUNT) - MIDDAY;
    }

    private static int middleOf(int[] tolds, int bits, int[] sorted) {
        int size = 0;
        for (int dial = 0; dial < tolds.length; dial++) {
            if ((bits >> dial & 1) == 0 || tolds[dial] == NONE || size >= sorted.length) {
                continue;
            }
            int place = size;
            while (place > 0 && sorted[place - 1] > tolds[dial]) {
                sorted[place] = sorted[place - 1];
                place--;
            }
            sorted[place] = tolds[dial];
            size++;
        }
        return size == 0 ? NONE : sorted[size / 2];
    }

    /** What a text tells of a port, and what its dials tell by it, whatever was mended. */
    private static final class Port {
        /** Seven angles round each of two that may be meant. */
        static final int MOST_MOMENTS = 14;
        private static final int WITHOUT_SWING = 120;
        private static final int NO_ANGLE = -100000;
        private static final int MOON_REACH = 360;
        private static final int MOON_AGES = 30;

        int dials = 0;
        int swing = WITHOUT_SWING;
        int clouds = 0;
        final int[] kinds = new int[MOST_DIALS];
        final int[] turns = new int[MOST_DIALS];
        final int[] tilts = new int[MOST_DIALS];
        final int[] towns = new int[MOST_DIALS];
        final int[] grown = new int[MOST_DIALS];
        final int[] limps = new int[MONTH_COUNT];
        private final int[] cloudFrom = new int[MOST_CLOUDS];
        private final int[] cloudTo = new int[MOST_CLOUDS];
        /** Clouds of one day are a chain, numbered from 1 on (0 ends it): most days have none to look at. */
        private final int[] firstCloud = new int[DAY_COUNT];
        private final int[] nextCloud = new int[MOST_CLOUDS];

        void clear() {
            dials = 0;
            swing = WITHOUT_SWING;
            clouds = 0;
            Arrays.fill(limps, 0);
            Arrays.fill(firstCloud, 0);
        }

        void addCloud(int day, int from, int to) {
            if (clouds >= MOST_CLOUDS) {
                return;
            }
            cloudFrom[clouds] = from;
            cloudTo[clouds] = to;
            nextCloud[clouds] = firstCloud[day];
            clouds++;
            firstCloud[day] = clouds;
        }

        int noonOf(int day) {
            return MIDDAY + limps[day / MONTH_LENGTH];
        }

        int halfOf(int day) {
            int far = Math.abs(day - 172);
            if (far > 182) {
                far = DAY_COUNT - far;
            }
            return 360 + swing * (91 - far) / 91;
        }

        private boolean isClouded(int day, int minute) {
            int cloud = firstCloud[day];
            for (int i = 0; i < MOST_CLOUDS && cloud > 0 && cloud <= clouds; i++) {
                if (cloudFrom[cloud - 1] <= minute && minute <= cloudTo[cloud - 1]) {
                    return true;
                }
                cloud = nextCloud[cloud - 1];
            }
            return false;
        }

        private boolean isGrown(int dial, int day) {
            return grown[dial] != NONE && day >= grown[dial] && kinds[dial] != PAINTED;
        }

        private static boolean hasMoon(int day) {
            int age = day % MOON_AGES;
            return age >= 8 && age <= 22;
        }

        int toldBy(int dial, int day, int minute, int turn, int tilt) {
            int plain = plainlyTold(dial, day, minute, tilt);
            if (plain == NONE) {
                return NONE;
            }
            int told = Math.floorMod(plain + turn, MINUTE_COUNT);
            return kinds[dial] == CANNON && told != MIDDAY ? NONE : told;
        }

        /** What a dial tells without its turn, a cannon as a bowl: all else is the same for each turn. */
        int plainlyTold(int dial, int day, int minute, int tilt) {
            if (isGrown(dial, day)) {
                return NONE;
            }
            int kind = kinds[dial];
            int angle = 0;
            if (kind == MOON) {
                angle = moonAngle(day, minute);
            } else if (kind != PAINTED) {
                angle = sunAngle(kind, day, minute);
            }
            if (angle == NO_ANGLE) {
                return NONE;
            }
            int bent = hasTilt(kind) ? angle * (100 + tilt) / 100 : angle;
            return Math.floorMod(MIDDAY + bent + towns[dial], MINUTE_COUNT);
        }

        private static boolean hasTilt(int kind) {
            return kind != BOWL && kind != CANNON;
        }

        private int sunAngle(int kind, int day, int minute) {
            int angle = minute - noonOf(day);
            if (Math.abs(angle) > halfOf(day) || isClouded(day, minute)) {
                return NO_ANGLE;
            }
            if ((kind == EAST && angle > 0) || (kind == WEST && angle < 0)) {
                return NO_ANGLE;
            }
            return angle;
        }

        private int moonAngle(int day, int minute) {
            if (!hasMoon(day) || Math.abs(minute - noonOf(day)) <= halfOf(day)) {
                return NO_ANGLE;
            }
            int angle = around(minute - moonNoonOf(day));
            return Math.abs(angle) > MOON_REACH ? NO_ANGLE : angle;
        }

        /** May be past the day's end. */
        private static int moonNoonOf(int day) {
            return MIDDAY + 48 * (day % MOON_AGES);
        }

        /**
         * The minutes of a day in which a dial (no painted one) tells so, in no order: how many. Only angles next to
         * the one that the tilt would bend to it are tried; a bend of at least a half keeps them within three.
         */
        int findMoments(int dial, int day, int told, int turn, int[] found) {
            int kind = kinds[dial];
            int stretch = hasTilt(kind) ? 100 + tilts[dial] : 100;
            if (stretch <= 0) {
                return 0;
            }
            int size = 0;
            int bent = Math.floorMod(told - MIDDAY - turn - towns[dial], MINUTE_COUNT);
            for (int way = 0; way < 2; way++) {
                int next = (bent - way * MINUTE_COUNT) * 100 / stretch;
                for (int angle = next - 3; angle <= next + 3; angle++) {
                    int minute = minuteAt(kind, day, angle);
                    if (minute != NONE && size < found.length
                            && toldBy(dial, day, minute, turn, tilts[dial]) == told) {
                        found[size] = minute;
                        size++;
                    }
                }
            }
            return size;
        }

        private int minuteAt(int kind, int day, int angle) {
            if (kind == MOON) {
                return Math.abs(angle) > MOON_REACH
                        ? NONE : Math.floorMod(moonNoonOf(day) + angle, MINUTE_COUNT);
            }
            return Math.abs(angle) > halfOf(day) ? NONE : noonOf(day) + angle;
        }

        /** In how many minutes of a day it isn't dark; not for cannons, and a painted one loses none. */
        int litMinutes(int dial, int day) {
            if (kinds[dial] == PAINTED || isGrown(dial, day)) {
                return 0;
            }
            return kinds[dial] == MOON ? moonMinutes(day) : sunMinutes(kinds[dial], day);
        }

        private int sunMinutes(int kind, int day) {
            int noon = noonOf(day);
            int half = halfOf(day);
            int from = kind == WEST ? noon : noon - half;
            int to = kind == EAST ? noon : noon + half;
            if (firstCloud[day] == 0) {
                return to - from + 1;
            }
            int lit = 0;
            for (int minute = from; minute <= to; minute++) {
                if (!isClouded(day, minute)) {
                    lit++;
                }
            }
            return lit;
        }

        /** The moon's way may go past midnight, so this day's light is taken off it twice: here and a round later. */
        private int moonMinutes(int day) {
            if (!hasMoon(day)) {
                return 0;
            }
            int from = moonNoonOf(day) - MOON_REACH;
            int to = moonNoonOf(day) + MOON_REACH;
            int dawn = noonOf(day) - halfOf(day);
            int dusk = noonOf(day) + halfOf(day);
            return to - from + 1 - shared(from, to, dawn, dusk)
                    - shared(from, to, dawn + MINUTE_COUNT, dusk + MINUTE_COUNT);
        }

        private static int shared(int from, int to, int dawn, int dusk) {
            return Math.max(0, Math.min(to, dusk) - Math.max(from, dawn) + 1);
        }
    }

    /** What is noted down beside the port's text: all that an image keeps. */
    private static final class Notes {
        int readings = 0;
        int seen = 0;
        int mends = 0;
        final int[] readDial = new int[MOST_READINGS];
        final int[] readDay = new int[MOST_READINGS];
        final int[] readMinute = new int[MOST_READINGS];
        final int[] readTold = new int[MOST_READINGS];
        final int[] seenTold = new int[MOST_DIALS];
        private final int[] mendDial = new int[MOST_MENDS];
        private final int[] mendDay = new int[MOST_MENDS];
        private final int[] mendTurn = new int[MOST_MENDS];

        Notes() {
            Arrays.fill(seenTold, NONE);
        }

        void clear() {
            readings = 0;
            mends = 0;
            clearSeen();
        }

        void clearSeen() {
            seen = 0;
            Arrays.fill(seenTold, NONE);
        }

        int addReading(int dial, int day, int minute, int told) {
            if (readings < MOST_READINGS) {
                readDial[readings] = dial;
                readDay[readings] = day;
                readMinute[readings] = minute;
                readTold[readings] = told;
                readings++;
            }
            return readings;
        }

        int addMend(int dial, int day, int turn) {
            if (mends < MOST_MENDS) {
                mendDial[mends] = dial;
                mendDay[mends] = day;
                mendTurn[mends] = turn;
                mends++;
            }
            return mends;
        }

        int turnBy(int dial, int day, int own) {
            for (int mend = mends - 1; mend >= 0; mend--) {
                if (mendDial[mend] == dial && mendDay[mend] <= day) {
                    return mendTurn[mend];
                }
            }
            return own;
        }

        int firstReadingOf(int dial) {
            for (int reading = 0; reading < readings; reading++) {
                if (readDial[reading] == dial) {
                    return reading;
                }
            }
            return NONE;
        }

        void copyFrom(Notes other) {
            readings = other.readings;
            seen = other.seen;
            mends = other.mends;
            System.arraycopy(other.readDial, 0, readDial, 0, MOST_READINGS);
            System.arraycopy(other.readDay, 0, readDay, 0, MOST_READINGS);
            System.arraycopy(other.readMinute, 0, readMinute, 0, MOST_READINGS);
            System.arraycopy(other.readTold, 0, readTold, 0, MOST_READINGS);
            System.arraycopy(other.seenTold, 0, seenTold, 0, MOST_DIALS);
            System.arraycopy(other.mendDial, 0, mendDial, 0, MOST_MENDS);
            System.arraycopy(other.mendDay, 0, mendDay, 0, MOST_MENDS);
            System.arraycopy(other.mendTurn, 0, mendTurn, 0, MOST_MENDS);
        }
    }

    /** The faults of one dial that fit its readings: of each tilt the turns are one row without gaps. */
    private static final class Fits {
        private static final int FIT_TURN = 60;
        private static final int FIT_TILT = 20;
        private static final int TILT_COUNT = 2 * FIT_TILT + 1;
        /** Tilts bend two tellings of one minute apart by at most 240 minutes, turns by 60 more to each side. */
        private static final int REACH = 310;

        int couples = 0;
        private final int[] fromTurn = new int[TILT_COUNT];
        private final int[] toTurn = new int[TILT_COUNT];
        private final int[] steps = new int[2 * REACH + 1];

        void weigh(Port port, Notes notes, int dial) {
            int first = notes.firstReadingOf(dial);
            couples = 0;
            for (int i = 0; i < TILT_COUNT; i++) {
                if (first == NONE) {
                    fromTurn[i] = -FIT_TURN;
                    toTurn[i] = FIT_TURN;
                } else {
                    weighTilt(port, notes, first, i);
                }
                couples += toTurn[i] - fromTurn[i] + 1;
            }
        }

        /** With a reading, one turn at most can fit a tilt. */
        private void weighTilt(Port port, Notes notes, int first, int i) {
            fromTurn[i] = 1;
            toTurn[i] = 0;
            int dial = notes.readDial[first];
            int tilt = i - FIT_TILT;
            int plain = port.plainlyTold(dial, notes.readDay[first], notes.readMinute[first], tilt);
            if (plain == NONE) {
                return;
            }
            int turn = around(notes.readTold[first] - plain);
            if (Math.abs(turn) <= FIT_TURN && tellsAllReadings(port, notes, dial, turn, tilt)) {
                fromTurn[i] = turn;
                toTurn[i] = turn;
            }
        }

        private static boolean tellsAllReadings(Port port, Notes notes, int dial, int turn, int tilt) {
            for (int r = 0; r < notes.readings; r++) {
                if (notes.readDial[r] == dial
                        && port.toldBy(dial, notes.readDay[r], notes.readMinute[r], turn, tilt)
                        != notes.readTold[r]) {
                    return false;
                }
            }
            return true;
        }

        private boolean isEmpty(int i) {
            return fromTurn[i] > toTurn[i];
        }

        int leastTurn() {
            int least = FIT_TURN;
            for (int i = 0; i < TILT_COUNT; i++) {
                if (!isEmpty(i)) {
                    least = Math.min(least, fromTurn[i]);
                }
            }
            return least;
        }

        int greatestTurn() {
            int greatest = -FIT_TURN;
            for (int i = 0; i < TILT_COUNT; i++) {
                if (!isEmpty(i)) {
                    greatest = Math.max(greatest, toTurn[i]);
                }
            }
            return greatest;
        }

        int leastTilt() {
            for (int i = 0; i < TILT_COUNT; i++) {
                if (!isEmpty(i)) {
                    return i - FIT_TILT;
                }
            }
            return NONE;
        }

        int greatestTilt() {
            for (int i = TILT_COUNT - 1; i >= 0; i--) {
                if (!isEmpty(i)) {
                    return i - FIT_TILT;
                }
            }
            return NONE;
        }

        int greatestGroup(Port port, int dial, int day, int minute) {
            int plain = port.plainlyTold(dial, day, minute, 0);
            if (plain == NONE) {
                return couples;
            }
            if (port.kinds[dial] == CANNON) {
                int firing = couplesOfTurn(around(MIDDAY - plain));
                return Math.max(firing, couples - firing);
            }
            Arrays.fill(steps, 0);
            for (int i = 0; i < TILT_COUNT; i++) {
                if (!isEmpty(i)) {
                    int bent = port.plainlyTold(dial, day, minute, i - FIT_TILT);
                    addStep(around(bent - plain) + fromTurn[i], 1);
                    addStep(around(bent - plain) + toTurn[i] + 1, -1);
                }
            }
            return highestStep();
        }

        private int couplesOfTurn(int turn) {
            int found = 0;
            for (int i = 0; i < TILT_COUNT; i++) {
                if (fromTurn[i] <= turn && turn <= toTurn[i]) {
                    found++;
                }
            }
            return found;
        }

        /** Up by one where a row of turns begins, down again behind its end: the height is how many tell alike. */
        private void addStep(int at, int up) {
            int place = at + REACH;
            if (place >= 0 && place < steps.length) {
                steps[place] += up;
            }
        }

        private int highestStep() {
            int height = 0;
            int highest = 0;
            for (int i = 0; i < steps.length; i++) {
                height += steps[i];
                highest = Math.max(highest, height);
            }
            return highest;
        }
    }

    /** Counts that one call needs; none of them outlives it. */
    private static final class Tally {
        int lit = 0;
        int wrong = 0;
        int worstDay = NONE;
        private int worst = NONE;
        int fitting = 0;
        int leastMinute = NONE;
        int greatestMinute = NONE;
        int daysRight = 0;
        /** As many as turns, and one for the step down behind the last of them. */
        private final int[] turnSteps = new int[2 * MOST_TURN + 2];
        private final int[] groupMinutes = new int[1 << MOST_DIALS];

        void clear() {
            lit = 0;
            wrong = 0;
            worstDay = NONE;
            worst = NONE;
            fitting = 0;
            leastMinute = NONE;
            greatestMinute = NONE;
        }

        void add(int day, int told, int minute) {
            if (told == NONE) {
                return;
            }
            int by = wrongBy(told, minute);
            lit++;
            wrong += by;
            if (by > worst) {
                worst = by;
                worstDay = day;
            }
        }

        void addMinute(int minute) {
            fitting++;
            leastMinute = leastMinute == NONE ? minute : Math.min(leastMinute, minute);
            greatestMinute = Math.max(greatestMinute, minute);
        }

        void addAllMinutes() {
            fitting = MINUTE_COUNT;
            leastMinute = 0;
            greatestMinute = MINUTE_COUNT - 1;
        }

        void clearTurns() {
            daysRight = 0;
            Arrays.fill(turnSteps, 0);
        }

        void addTurns(int from, int to) {
            int first = Math.max(from, -MOST_TURN);
            int last = Math.min(to, MOST_TURN);
            if (first <= last) {
                turnSteps[first + MOST_TURN]++;
                turnSteps[last + MOST_TURN + 1]--;
            }
        }

        int bestTurn(int own) {
            int chosen = NONE;
            int height = 0;
            daysRight = NONE;
            for (int turn = -MOST_TURN; turn <= MOST_TURN; turn++) {
                height += turnSteps[turn + MOST_TURN];
                boolean nearer = height == daysRight && Math.abs(turn - own) < Math.abs(chosen - own);
                if (height > daysRight || nearer) {
                    daysRight = height;
                    chosen = turn;
                }
            }
            return chosen;
        }

        void clearGroups() {
            Arrays.fill(groupMinutes, 0);
        }

        void addGroup(int bits) {
            if (bits >= 0 && bits < groupMinutes.length) {
                groupMinutes[bits]++;
            }
        }

        int minutesOfBoth(int one, int other) {
            int pair = 1 << one | 1 << other;
            int both = 0;
            for (int bits = 0; bits < groupMinutes.length; bits++) {
                if ((bits & pair) == pair) {
                    both += groupMinutes[bits];
                }
            }
            return both;
        }
    }

    /**
     * The tokens of a text, one at a time, and its first fault. Ports and laws share the signs of both: where a
     * sign of the other can't stand, it is the same fault as a byte that is no token.
     */
    private static final class Scan {
        static final int CANT_STAND = 1;
        static final int TOO_MUCH = 2;
        static final int TWICE = 3;
        static final int OTHER_WORD = 4;

        private static final int END = 0;
        private static final int WORD = 1;
        private static final int NUMBER = 2;
        private static final int SIGN = 3;
        private static final int MOST_DIGITS = 4;

        int fault = 0;
        int place = NONE;
        int taken = 0;
        private byte[] text = null;
        private int length = 0;
        private int kind = END;
        private int start = 0;
        private int end = 0;

        void begin(byte[] bytes, int n) {
            text = bytes;
            length = bytes == null ? 0 : Math.max(0, Math.min(n, bytes.length));
            fault = 0;
            place = NONE;
            end = 0;
            advance();
        }

        void advance() {
            start = end;
            while (start < length && (text[start] == ' ' || text[start] == '\n')) {
                start++;
            }
            end = start;
            if (start >= length) {
                kind = END;
            } else if (isLetter(text[start])) {
                kind = WORD;
                while (end < length && isLetter(text[end])) {
                    end++;
                }
            } else if (isDigit(text[start])) {
                kind = NUMBER;
                while (end < length && isDigit(text[end])) {
                    end++;
                }
            } else {
                kind = SIGN;
                end++;
            }
        }

        private static boolean isLetter(byte sign) {
            return sign >= 'a' && sign <= 'z';
        }

        private static boolean isDigit(byte sign) {
            return sign >= '0' && sign <= '9';
        }

        boolean isEnd() {
            return kind == END;
        }

        boolean isAnyWord() {
            return kind == WORD;
        }

        boolean isWord(String word) {
            if (kind != WORD || end - start != word.length()) {
                return false;
            }
            for (int i = 0; i < word.length(); i++) {
                if (text[start + i] != word.charAt(i)) {
                    return false;
                }
            }
            return true;
        }

        boolean isSign(char sign) {
            return kind == SIGN && text[start] == sign;
        }

        /** Always false, so that who reads can hand it on. */
        boolean refuse(int what) {
            fault = what;
            place = start;
            return false;
        }

        boolean takeWord(String word) {
            if (!isWord(word)) {
                return refuse(CANT_STAND);
            }
            advance();
            return true;
        }

        boolean takeSign(char sign) {
            if (!isSign(sign)) {
                return refuse(CANT_STAND);
            }
            advance();
            return true;
        }

        boolean takeSigned(int most) {
            boolean below = isSign('-');
            if (below) {
                advance();
            }
            if (!takeNumber(0, most)) {
                return false;
            }
            taken = below ? -taken : taken;
            return true;
        }

        boolean takeNumber(int least, int most) {
            if (!holdsNumber(least, most)) {
                return false;
            }
            advance();
            return true;
        }

        /** Leaves the token there, so that it can still be refused. */
        boolean holdsNumber(int least, int most) {
            if (kind != NUMBER) {
                return refuse(CANT_STAND);
            }
            int number = 0;
            for (int i = start; i < end && i < start + MOST_DIGITS; i++) {
                number = 10 * number + text[i] - '0';
            }
            if (end - start > MOST_DIGITS || number < least || number > most) {
                return refuse(TOO_MUCH);
            }
            taken = number;
            return true;
        }
    }

    private static final class PortReader {
        private static final int MOST_TILT = 50;
        private static final int MOST_TOWN = 120;
        private static final int MOST_LIMP = 30;
        private static final int MOST_SWING = 240;

        private Scan scan = null;
        private Port port = null;
        private boolean hasLimps = false;
        private boolean hasSwing = false;

        boolean readInto(Port into, Scan from) {
            if (into == null || from == null) {
                return false;
            }
            port = into;
            scan = from;
            hasLimps = false;
            hasSwing = false;
            port.clear();
            for (int line = 0; line < MOST_BYTES && !scan.isEnd(); line++) {
                if (!readLine() || !scan.takeSign(';')) {
                    return false;
                }
            }
            return true;
        }

        private boolean readLine() {
            if (scan.isWord("dial")) {
                return readDial();
            }
            if (scan.isWord("limps")) {
                return readLimps();
            }
            if (scan.isWord("swing")) {
                return readSwing();
            }
            if (scan.isWord("cloud")) {
                return readCloud();
            }
            return scan.refuse(Scan.CANT_STAND);
        }

        private boolean readDial() {
            int dial = port.dials;
            if (dial >= MOST_DIALS) {
                return scan.refuse(Scan.TOO_MUCH);
            }
            scan.advance();
            int kind = kindHere();
            if (kind == NONE) {
                return scan.refuse(Scan.CANT_STAND);
            }
            scan.advance();
            port.kinds[dial] = kind;
            if (!scan.takeSigned(MOST_TURN)) {
                return false;
            }
            port.turns[dial] = scan.taken;
            if (!scan.takeSigned(MOST_TILT)) {
                return false;
            }
            port.tilts[dial] = scan.taken;
            if (!scan.takeSigned(MOST_TOWN)) {
                return false;
            }
            port.towns[dial] = scan.taken;
            port.dials++;
            return readGrown(dial);
        }

        private boolean readGrown(int dial) {
            port.grown[dial] = NONE;
            if (!scan.isWord("grown")) {
                return true;
            }
            scan.advance();
            if (!scan.takeNumber(0, DAY_COUNT - 1)) {
                return false;
            }
            port.grown[dial] = scan.taken;
            return true;
        }

        private int kindHere() {
            if (scan.isWord("east")) {
                return EAST;
            }
            if (scan.isWord("west")) {
                return WEST;
            }
            if (scan.isWord("bowl")) {
                return BOWL;
            }
            if (scan.isWord("moon")) {
                return MOON;
            }
            if (scan.isWord("cannon")) {
                return CANNON;
            }
            return scan.isWord("painted") ? PAINTED : NONE;
        }

        private boolean readLimps() {
            if (hasLimps) {
                return scan.refuse(Scan.TWICE);
            }
            hasLimps = true;
            scan.advance();
            for (int month = 0; month < MONTH_COUNT; month++) {
                if (!scan.takeSigned(MOST_LIMP)) {
                    return false;
                }
                port.limps[month] = scan.taken;
            }
            return true;
        }

        private boolean readSwing() {
            if (hasSwing) {
                return scan.refuse(Scan.TWICE);
            }
            hasSwing = true;
            scan.advance();
            if (!scan.takeNumber(0, MOST_SWING)) {
                return false;
            }
            port.swing = scan.taken;
            return true;
        }

        private boolean readCloud() {
            if (port.clouds >= MOST_CLOUDS) {
                return scan.refuse(Scan.TOO_MUCH);
            }
            scan.advance();
            if (!scan.takeNumber(0, DAY_COUNT - 1)) {
                return false;
            }
            int day = scan.taken;
            if (!scan.takeNumber(0, MINUTE_COUNT - 1)) {
                return false;
            }
            int from = scan.taken;
            if (!scan.takeNumber(from, MINUTE_COUNT - 1)) {
                return false;
            }
            port.addCloud(day, from, scan.taken);
            return true;
        }
    }

    /** A law as a tree: node 0 is all of it; a node has a value and its parts, a chain from the first one on. */
    private static final class Law {
        static final int DIAL = 0;
        static final int MIDDLE = 1;
        static final int FIRST = 2;
        static final int MEAN = 3;
        static final int LATE = 4;
        static final int IF = 5;
        static final int NOT = 6;
        static final int DARK = 7;
        static final int MONTH = 8;
        static final int BEFORE = 9;

        static final int MOST_LEVELS = 12;
        /** Each node begins with a word of two letters or more. */
        private static final int MOST_NODES = MOST_BYTES / 2;

        private int nodes = 0;
        private final int[] sorts = new int[MOST_NODES];
        private final int[] values = new int[MOST_NODES];
        private final int[] firstPart = new int[MOST_NODES];
        private final int[] nextPart = new int[MOST_NODES];
        private final int[] sorted = new int[MOST_DIALS];
        private int[] tolds = null;
        private int month = 0;

        void clear() {
            nodes = 0;
        }

        int addNode(int sort) {
            if (nodes >= MOST_NODES) {
                return NONE;
            }
            int node = nodes;
            sorts[node] = sort;
            values[node] = 0;
            firstPart[node] = NONE;
            nextPart[node] = NONE;
            nodes++;
            return node;
        }

        private boolean isNode(int node) {
            return node >= 0 && node < nodes;
        }

        void setValue(int node, int value) {
            if (isNode(node)) {
                values[node] = value;
            }
        }

        /** Behind the part that came last, which is NONE for the first one. */
        void addPart(int node, int last, int part) {
            if (isNode(last)) {
                nextPart[last] = part;
            } else if (isNode(node)) {
                firstPart[node] = part;
            }
        }

        int tellsBy(int[] dialTolds, int monthNow) {
            if (dialTolds == null) {
                return NONE;
            }
            tolds = dialTolds;
            month = monthNow;
            return timeAt(0, 0);
        }

        private int partAt(int node, int number) {
            int part = isNode(node) ? firstPart[node] : NONE;
            for (int i = 0; i < number && isNode(part); i++) {
                part = nextPart[part];
            }
            return part;
        }

        private int timeAt(int node, int level) {
            if (!isNode(node) || level >= MOST_LEVELS) {
                return NONE;
            }
            switch (sorts[node]) {
                case DIAL: return toldBy(values[node]);
                case MIDDLE: return middleOf(tolds, values[node], sorted);
                case FIRST: return firstAt(node, level);
                case MEAN: return meanAt(node, level);
                case LATE: return laterAt(node, level);
                case IF: return chosenAt(node, level);
                default: return NONE;
            }
        }

        private int toldBy(int dial) {
            return dial >= 0 && dial < tolds.length ? tolds[dial] : NONE;
        }

        private int firstAt(int node, int level) {
            int part = partAt(node, 0);
            for (int i = 0; i < MOST_NODES && isNode(part); i++) {
                int told = timeAt(part, level + 1);
                if (told != NONE) {
                    return told;
                }
                part = nextPart[part];
            }
            return NONE;
        }

        private int meanAt(int node, int level) {
            int one = timeAt(partAt(node, 0), level + 1);
            int other = timeAt(partAt(node, 1), level + 1);
            return one == NONE || other == NONE ? NONE : (one + other) / 2;
        }

        private int laterAt(int node, int level) {
            int told = timeAt(partAt(node, 0), level + 1);
            return told == NONE ? NONE : Math.floorMod(told + values[node], MINUTE_COUNT);
        }

        private int chosenAt(int node, int level) {
            boolean holds = testAt(partAt(node, 0), level + 1);
            return timeAt(partAt(node, holds ? 1 : 2), level + 1);
        }

        private boolean testAt(int node, int level) {
            if (!isNode(node) || level >= MOST_LEVELS) {
                return false;
            }
            switch (sorts[node]) {
                case NOT: return !testAt(partAt(node, 0), level + 1);
                case DARK: return timeAt(partAt(node, 0), level + 1) == NONE;
                case MONTH: return month == values[node];
                case BEFORE: return isBefore(node, level);
                default: return false;
            }
        }

        private boolean isBefore(int node, int level) {
            int one = timeAt(partAt(node, 0), level + 1);
            int other = timeAt(partAt(node, 1), level + 1);
            return one != NONE && other != NONE && one < other;
        }
    }

    /** Each reading method answers the node that it made; NONE, if there was a fault. */
    private static final class LawReader {
        private static final int MOST_LATE = 720;

        private Scan scan = null;
        private Law law = null;
        private int dials = 0;

        boolean readInto(Law into, Scan from, int dialCount) {
            if (into == null || from == null) {
                return false;
            }
            law = into;
            scan = from;
            dials = dialCount;
            law.clear();
            if (readTime(0) == NONE) {
                return false;
            }
            return scan.isEnd() || scan.refuse(Scan.CANT_STAND);
        }

        /** How deep it is counts ahead of which word it is, as that is the lesser fault. */
        private boolean canBegin(int level) {
            if (!scan.isAnyWord()) {
                return scan.refuse(Scan.CANT_STAND);
            }
            return level < Law.MOST_LEVELS || scan.refuse(Scan.TOO_MUCH);
        }

        private int readTime(int level) {
            if (!canBegin(level)) {
                return NONE;
            }
            if (scan.isWord("dial")) {
                return readDial();
            }
            if (scan.isWord("middle")) {
                return readMiddle();
            }
            if (scan.isWord("first")) {
                return readFirst(level);
            }
            if (scan.isWord("mean")) {
                return readCouple(Law.MEAN, level);
            }
            if (scan.isWord("late")) {
                return readLate(level);
            }
            if (scan.isWord("if")) {
                return readIf(level);
            }
            scan.refuse(Scan.OTHER_WORD);
            return NONE;
        }

        private int readTest(int level) {
            if (!canBegin(level)) {
                return NONE;
            }
            if (scan.isWord("not")) {
                return readNot(level);
            }
            if (scan.isWord("dark")) {
                return readDark(level);
            }
            if (scan.isWord("month")) {
                return readMonth();
            }
            if (scan.isWord("before")) {
                return readCouple(Law.BEFORE, level);
            }
            scan.refuse(Scan.OTHER_WORD);
            return NONE;
        }

        private int open(int sort) {
            scan.advance();
            return law.addNode(sort);
        }

        /** Hands on whether there was a part to add. */
        private boolean addPart(int node, int last, int part) {
            if (part == NONE) {
                return false;
            }
            law.addPart(node, last, part);
            return true;
        }

        private int readDial() {
            int node = open(Law.DIAL);
            if (!scan.takeNumber(0, dials - 1)) {
                return NONE;
            }
            law.setValue(node, scan.taken);
            return node;
        }

        private int readMiddle() {
            int node = open(Law.MIDDLE);
            if (!scan.takeSign('(')) {
                return NONE;
            }
            int bits = takeOther(0);
            for (int i = 0; i < MOST_DIALS && bits != NONE && scan.isSign(','); i++) {
                scan.advance();
                bits = takeOther(bits);
            }
            if (bits == NONE || !scan.takeSign(')')) {
                return NONE;
            }
            law.setValue(node, bits);
            return node;
        }

        /** A dial beside those of the bits: the bits with it. */
        private int takeOther(int bits) {
            if (!scan.holdsNumber(0, dials - 1)) {
                return NONE;
            }
            int bit = 1 << scan.taken;
            if ((bits & bit) != 0) {
                scan.refuse(Scan.TWICE);
                return NONE;
            }
            scan.advance();
            return bits | bit;
        }

        private int readFirst(int level) {
            int node = open(Law.FIRST);
            if (!scan.takeSign('(')) {
                return NONE;
            }
            int last = readTime(level + 1);
            if (!addPart(node, NONE, last)) {
                return NONE;
            }
            for (int i = 0; i < MOST_BYTES && scan.isSign(','); i++) {
                scan.advance();
                int part = readTime(level + 1);
                if (!addPart(node, last, part)) {
                    return NONE;
                }
                last = part;
            }
            return scan.takeSign(')') ? node : NONE;
        }

        private int readCouple(int sort, int level) {
            int node = open(sort);
            if (!scan.takeSign('(')) {
                return NONE;
            }
            int one = readTime(level + 1);
            if (!addPart(node, NONE, one) || !scan.takeSign(',')) {
                return NONE;
            }
            int other = readTime(level + 1);
            if (!addPart(node, one, other) || !scan.takeSign(')')) {
                return NONE;
            }
            return node;
        }

        private int readLate(int level) {
            int node = open(Law.LATE);
            if (!scan.takeSigned(MOST_LATE)) {
                return NONE;
            }
            law.setValue(node, scan.taken);
            return addPart(node, NONE, readTime(level + 1)) ? node : NONE;
        }

        private int readIf(int level) {
            int node = open(Law.IF);
            int test = readTest(level + 1);
            if (!addPart(node, NONE, test) || !scan.takeWord("then")) {
                return NONE;
            }
            int then = readTime(level + 1);
            if (!addPart(node, test, then) || !scan.takeWord("else")) {
                return NONE;
            }
            int otherwise = readTime(level + 1);
            if (!addPart(node, then, otherwise) || !scan.takeWord("end")) {
                return NONE;
            }
            return node;
        }

        private int readNot(int level) {
            int node = open(Law.NOT);
            return addPart(node, NONE, readTest(level + 1)) ? node : NONE;
        }

        private int readDark(int level) {
            int node = open(Law.DARK);
            return addPart(node, NONE, readTime(level + 1)) ? node : NONE;
        }

        private int readMonth() {
            int node = open(Law.MONTH);
            if (!scan.takeNumber(0, MONTH_COUNT - 1)) {
                return NONE;
            }
            law.setValue(node, scan.taken);
            return node;
        }
    }
}
