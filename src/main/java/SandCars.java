import java.util.Arrays;
import java.util.NoSuchElementException;

/** Cars on a slope, let down by sand: see ../shared/DOC.md, whose words the names here follow. */
public final class SandCars {
    public static final int NONE = -1;

    private static final int SPENT = -2;
    private static final int TAPE_BYTES = 400;
    private static final int FED_BYTES = 20;
    private static final int ROPES = 3;
    private static final int MOST_AT_ONCE = 200;
    private static final int PLANNED = 60;
    private static final int LONGEST_GLASS = 30;
    private static final int REFUSED_TEXTS = 0;
    private static final int REFUSED_SECONDS = 1;
    private static final int REFUSED_TIMES = 2;

    private final Tape tape = new Tape();
    private int faultPlace = NONE;
    private Mine mine = new Mine();
    private Mine spare = new Mine();
    private final Day day = new Day();
    private final Day kept = new Day();
    private boolean hasImage = false;
    private final Trial trial = new Trial();
    private final Fitter fitter = new Fitter();
    private final Safety safety = new Safety();
    private final Planner planner = new Planner();
    private Found found = null;

    public SandCars() {
        day.begin(mine);
    }

    public int feed(int a, int b, int c, int d, int e) {
        if (tape.held + FED_BYTES > TAPE_BYTES) {
            return NONE;
        }
        tape.put(a);
        tape.put(b);
        tape.put(c);
        tape.put(d);
        tape.put(e);
        return tape.held;
    }

    public int mine(int n) throws IllegalArgumentException {
        if (n < 0 || n > tape.held) {
            throw new IllegalArgumentException("the tape has not so many bytes");
        }
        int fault = tape.read(n, spare);
        if (fault != 0) {
            faultPlace = tape.place;
            day.refused[REFUSED_TEXTS]++;
            return fault;
        }
        faultPlace = NONE;
        Mine old = mine;
        mine = spare;
        spare = old;
        day.begin(mine);
        hasImage = false;
        safety.known = false;
        planner.length = 0;
        return 0;
    }

    public int fault() {
        return faultPlace;
    }

    public int count(int what) throws NoSuchElementException {
        switch (what) {
            case 0:
                return mine.slope;
            case 1:
                return mine.siding;
            case 2:
                return mine.ropes;
            case 3:
                return mine.needs;
            case 4:
                return mine.fast;
            case 5:
                return day.seconds;
            case 6:
                return day.ore;
            case 7:
                return day.harm;
            case 8:
                return day.cars.last;
            case 9:
                return day.undoable;
            case 10:
                return day.times;
            case 11:
                return tape.held;
            case 12:
                return day.refused[REFUSED_TEXTS];
            case 13:
                return day.refused[REFUSED_SECONDS];
            case 14:
                return day.refused[REFUSED_TIMES];
            default:
                throw new NoSuchElementException("no such count");
        }
    }

    public int rope(int rope, int what) throws NoSuchElementException {
        needRope(rope);
        int at = day.cars.at[rope];
        switch (what) {
            case 0:
                return mine.kind[rope];
            case 1:
                return mine.pull[rope];
            case 2:
                return mine.glass[rope];
            case 3:
                return mine.slips[rope];
            case 4:
                return mine.rule[rope];
            case 5:
                return at;
            case 6:
                return day.cars.left[rope];
            case 7:
                return day.slips[rope];
            case 8:
                return at == NONE ? 0 : mine.pace(rope, at);
            default:
                throw new NoSuchElementException("no such fact of a rope");
        }
    }

    private void needRope(int rope) {
        if (rope < 0 || rope >= mine.ropes) {
            throw new NoSuchElementException("no such rope");
        }
    }

    public boolean slip(int rope, int slip) throws NoSuchElementException {
        needRope(rope);
        if (slip < 0 || slip > mine.slips[rope]) {
            return false;
        }
        day.slips[rope] = slip;
        return true;
    }

    public int on(int seconds) throws IllegalArgumentException {
        if (seconds < 0 || seconds > MOST_AT_ONCE) {
            throw new IllegalArgumentException("0 to 200 seconds go by");
        }
        if (day.harm != 0 && seconds > 0) {
            day.refused[REFUSED_SECONDS]++;
        }
        int gone = 0;
        while (gone < seconds && day.harm == 0) {
            day.goBy(mine);
            gone++;
        }
        return gone;
    }

    public int undo(int seconds) throws IllegalArgumentException {
        if (seconds < 0) {
            throw new IllegalArgumentException("fewer than no seconds");
        }
        int many = Math.min(seconds, day.undoable);
        for (int i = 0; i < many; i++) {
            day.goBack();
        }
        return many;
    }

    public int safe(int what) throws NoSuchElementException {
        if (what < 0 || what > 2) {
            throw new NoSuchElementException("no such fact of safety");
        }
        // Safety depends on the mine alone, so one search serves all asking till the next mine.
        if (!safety.known) {
            safety.search(mine, table());
        }
        if (safety.spent) {
            return SPENT;
        }
        if (what == 0) {
            return safety.soonest == NONE ? 1 : 0;
        }
        return what == 1 ? safety.soonest : safety.states;
    }

    /** The table is large, so only an object that searches makes one. */
    private Found table() {
        if (found == null) {
            found = new Found();
        }
        return found;
    }

    public int most(int n) throws IllegalArgumentException {
        if (n < 0 || n > PLANNED) {
            throw new IllegalArgumentException("0 to 60 seconds are planned");
        }
        return planner.search(mine, table(), n);
    }

    public int plan(int second) throws NoSuchElementException {
        if (second < 0 || second >= planner.length) {
            throw new NoSuchElementException("no such second of a plan");
        }
        return planner.starts[second];
    }

    public int time(int rope, int second) throws NoSuchElementException {
        needRope(rope);
        if (day.tell(rope, second)) {
            return day.times;
        }
        day.refused[REFUSED_TIMES]++;
        return NONE;
    }

    public int fitting() {
        return fitter.search(mine, day);
    }

    public int breaks(int rope) throws NoSuchElementException {
        needRope(rope);
        if (day.harm != 0 || day.cars.at[rope] == NONE) {
            return NONE;
        }
        return trial.firstMeeting(mine, day.cars, rope);
    }

    public int worth(int rope, int glass, int n) throws NoSuchElementException, IllegalArgumentException {
        needRope(rope);
        if (glass < 1 || glass > LONGEST_GLASS || n < 0 || n > MOST_AT_ONCE) {
            throw new IllegalArgumentException("a glass of 1 to 30 seconds, 0 to 200 seconds");
        }
        int old = mine.glass[rope];
        int without = trial.oreIn(mine, n);
        mine.glass[rope] = glass;
        int with = trial.oreIn(mine, n);
        mine.glass[rope] = old;
        return with - without;
    }

    public void image() {
        kept.copy(day);
        hasImage = true;
    }

    public boolean restore() {
        if (!hasImage) {
            return false;
        }
        day.copy(kept);
        return true;
    }

    /** What a text tells: the slope and its ropes. */
    private static final class Mine {
        private static final int PLAIN = 0;
        private static final int MEN = 1;
        private static final int WATER = 2;

        private int slope;
        private int siding;
        private int needs;
        private int fast;
        private int ropes;
        private final int[] kind = new int[ROPES];
        private final int[] load = new int[ROPES];
        private final int[] pull = new int[ROPES];
        private final int[] glass = new int[ROPES];
        private final int[] slips = new int[ROPES];
        private final int[] rule = new int[ROPES];

        private Mine() {
            clear();
        }

        private void clear() {
            slope = 4;
            siding = 0;
            needs = 1;
            fast = 99;
            ropes = 0;
        }

        private boolean strong(int rope) {
            return pull[rope] >= needs;
        }

        private int pace(int rope, int at) {
            boolean upper = at < slope / 2;
            switch (kind[rope]) {
                case PLAIN:
                    return pull[rope] >= fast ? 2 : 1;
                case MEN:
                    return 1;
                case WATER:
                    return upper ? 2 : 1;
                default:
                    return upper ? 1 : 3;
            }
        }

        private boolean inSiding(int place) {
            return place >= slope / 2 - siding && place <= slope / 2 + siding;
        }

        /** Whether two cars meet, of each of which it is told where it was and where it is now. */
        private boolean meet(int was, int now, int otherWas, int otherNow) {
            int between = now - otherNow;
            int ahead = was - otherWas;
            boolean together = between == 0 && now != 0 && now != slope;
            boolean past = between > 0 && ahead < 0 || between < 0 && ahead > 0;
            if (!together && !past) {
                return false;
            }
            int from = slope / 2 - siding;
            int to = slope / 2 + siding;
            return was < from || was > to || now < from || now > to
                    || otherWas < from || otherWas > to || otherNow < from || otherNow > to;
        }

        private int loads(int arrived) {
            int sum = 0;
            for (int r = 0; r < ropes; r++) {
                if ((arrived >> r & 1) != 0) {
                    sum += load[r];
                }
            }
            return sum;
        }
    }

    /** The tape, which reads its bytes as a mine; the first fault along the text ends the reading. */
    private static final class Tape {
        private static final int CANNOT_STAND = 1;
        private static final int TOO_MUCH = 2;
        private static final int LATE_SLOPE = 3;
        private static final int TOLD_TWICE = 4;

        private static final int END = 0;
        private static final int WORD = 1;
        private static final int NUMBER = 2;
        private static final int SIGN = 3;
        private static final int OTHER = 4;

        private final byte[] text = new byte[TAPE_BYTES];
        private int held = 0;
        private int length;
        private int token;
        private int from;
        private int behind;
        private int value;
        private int fault;
        private int place;
        private boolean needsTold;
        private boolean fastTold;

        private void put(int number) {
            for (int shift = 24; shift >= 0 && held < TAPE_BYTES; shift -= 8) {
                text[held] = (byte) (number >>> shift);
                held++;
            }
        }

        /** The fault, whose place is kept, or 0; the tape is empty then. */
        private int read(int bytes, Mine mine) {
            length = Math.min(bytes, held);
            held = 0;
            behind = 0;
            fault = 0;
            place = NONE;
            needsTold = false;
            fastTold = false;
            mine.clear();
            next();
            boolean good = true;
            for (int line = 0; line <= TAPE_BYTES && good && token != END; line++) {
                good = line(mine, line);
            }
            return fault;
        }

        private void next() {
            from = behind;
            while (from < length && (text[from] == 32 || text[from] == 10)) {
                from++;
            }
            behind = from;
            if (from >= length) {
                token = END;
                return;
            }
            token = tokenOf(text[from]);
            behind = from + 1;
            if (token == WORD || token == NUMBER) {
                while (behind < length && tokenOf(text[behind]) == token) {
                    behind++;
                }
            }
        }

        private static int tokenOf(int sign) {
            if (sign >= 'a' && sign <= 'z') {
                return WORD;
            }
            if (sign >= '0' && sign <= '9') {
                return NUMBER;
            }
            return sign == ';' ? SIGN : OTHER;
        }

        private boolean refuse(int reason) {
            fault = reason;
            place = from;
            return false;
        }

        private boolean isWord(String word) {
            if (token != WORD || behind - from != word.length()) {
                return false;
            }
            for (int i = 0; i < word.length() && from + i < length; i++) {
                if (text[from + i] != word.charAt(i)) {
                    return false;
                }
            }
            return true;
        }

        /** Whether a number as told stands here; the reading stays at it. */
        private boolean isNumber(int least, int greatest) {
            if (token != NUMBER) {
                return refuse(CANNOT_STAND);
            }
            if (behind - from > 3) {
                return refuse(TOO_MUCH);
            }
            value = 0;
            for (int i = from; i < behind && i < length; i++) {
                value = value * 10 + (text[i] - '0');
            }
            return value >= least && value <= greatest || refuse(TOO_MUCH);
        }

        private boolean line(Mine mine, int line) {
            if (isWord("slope")) {
                return line > 0 ? refuse(LATE_SLOPE) : slopeLine(mine);
            }
            if (isWord("needs")) {
                return needsTold ? refuse(TOLD_TWICE) : needsLine(mine);
            }
            if (isWord("fast")) {
                return fastTold ? refuse(TOLD_TWICE) : fastLine(mine);
            }
            if (isWord("rope")) {
                return mine.ropes >= ROPES ? refuse(TOO_MUCH) : ropeLine(mine);
            }
            return refuse(CANNOT_STAND);
        }

        private boolean sign() {
            if (token != SIGN) {
                return refuse(CANNOT_STAND);
            }
            next();
            return true;
        }

        private boolean slopeLine(Mine mine) {
            next();
            if (!isNumber(4, 20)) {
                return false;
            }
            if (value % 2 != 0) {
                return refuse(TOO_MUCH);
            }
            mine.slope = value;
            next();
            if (isWord("siding")) {
                next();
                if (!isNumber(0, Math.min(3, mine.slope / 2 - 1))) {
                    return false;
                }
                mine.siding = value;
                next();
            }
            return sign();
        }

        private boolean needsLine(Mine mine) {
            needsTold = true;
            next();
            if (!isNumber(1, 99)) {
                return false;
            }
            mine.needs = value;
            next();
            return sign();
        }

        private boolean fastLine(Mine mine) {
            fastTold = true;
            next();
            if (!isNumber(1, 99)) {
                return false;
            }
            mine.fast = value;
            next();
            return sign();
        }

        private boolean ropeLine(Mine mine) {
            int rope = mine.ropes;
            next();
            mine.kind[rope] = kindWord();
            if (mine.kind[rope] == NONE) {
                return refuse(CANNOT_STAND);
            }
            next();
            if (!isNumber(1, 99)) {
                return false;
            }
            mine.load[rope] = value;
            next();
            if (!isNumber(0, 98)) {
                return false;
            }
            mine.pull[rope] = mine.load[rope] - value;
            next();
            if (!glassPart(mine, rope)) {
                return false;
            }
            mine.ropes++;
            return sign();
        }

        private boolean glassPart(Mine mine, int rope) {
            if (!isWord("glass")) {
                return refuse(CANNOT_STAND);
            }
            next();
            if (!isNumber(1, LONGEST_GLASS)) {
                return false;
            }
            mine.glass[rope] = value;
            mine.slips[rope] = 0;
            next();
            if (isWord("slips")) {
                next();
                if (!isNumber(0, 3)) {
                    return false;
                }
                mine.slips[rope] = value;
                next();
            }
            int rule = ruleWord();
            mine.rule[rope] = Math.max(rule, 0);
            if (rule != NONE) {
                next();
            }
            return true;
        }

        private int kindWord() {
            if (isWord("plain")) {
                return 0;
            }
            if (isWord("men")) {
                return 1;
            }
            if (isWord("water")) {
                return 2;
            }
            return isWord("runaway") ? 3 : NONE;
        }

        private int ruleWord() {
            if (isWord("always")) {
                return 0;
            }
            if (isWord("clear")) {
                return 1;
            }
            if (isWord("half")) {
                return 2;
            }
            return isWord("turn") ? 3 : NONE;
        }
    }

    /** Where the cars are, what is left in the glasses, which rope started last. */
    private static final class Cars {
        private static final int MEETING = 1;
        private static final int CROWD = 2;
        private static final int CLEAR = 1;
        private static final int HALF = 2;
        private static final int TURN = 3;
        private static final int LAST_BITS = 2;
        private static final int AT_BITS = 5;
        private static final int LEFT_BITS = 6;

        private final int[] at = new int[ROPES];
        private final int[] left = new int[ROPES];
        // Of each rope the loaded car, then the empty one: where it was ahead of a second (NONE: it didn't move) and is now.
        private final int[] was = new int[2 * ROPES];
        private final int[] now = new int[2 * ROPES];
        private int last = NONE;
        private int arrived = 0;
        private int started = 0;

        private void first(Mine mine) {
            for (int r = 0; r < ROPES; r++) {
                at[r] = NONE;
                left[r] = r < mine.ropes ? mine.glass[r] : 0;
            }
            last = NONE;
        }

        /** A whole second, but for the slips: the harm, or 0. */
        private int pass(Mine mine) {
            started = 0;
            int harm = roll(mine);
            if (harm == 0) {
                runSand(mine);
                startDue(mine);
            }
            return harm;
        }

        /** The part of a second that the glasses have no say in: the harm, or 0. */
        private int roll(Mine mine) {
            arrived = 0;
            goOn(mine);
            int harm = harm(mine);
            if (harm == 0) {
                arrive(mine);
            }
            return harm;
        }

        private void goOn(Mine mine) {
            for (int r = 0; r < mine.ropes; r++) {
                was[2 * r] = at[r];
                if (at[r] == NONE) {
                    was[2 * r + 1] = NONE;
                    continue;
                }
                was[2 * r + 1] = mine.slope - at[r];
                at[r] = Math.min(mine.slope, at[r] + mine.pace(r, at[r]));
                now[2 * r] = at[r];
                now[2 * r + 1] = mine.slope - at[r];
            }
        }

        private int harm(Mine mine) {
            int crowd = 0;
            for (int car = 0; car < 2 * mine.ropes; car++) {
                if (was[car] == NONE) {
                    continue;
                }
                if (mine.inSiding(now[car])) {
                    crowd++;
                }
                for (int other = 0; other < car; other++) {
                    if (was[other] != NONE && mine.meet(was[car], now[car], was[other], now[other])) {
                        return MEETING;
                    }
                }
            }
            return crowd > 2 ? CROWD : 0;
        }

        private void arrive(Mine mine) {
            for (int r = 0; r < mine.ropes; r++) {
                if (at[r] == mine.slope) {
                    at[r] = NONE;
                    arrived |= 1 << r;
                }
            }
        }

        private void runSand(Mine mine) {
            for (int r = 0; r < mine.ropes; r++) {
                if (left[r] > 0) {
                    left[r]--;
                }
            }
        }

        private void startDue(Mine mine) {
            for (int r = 0; r < mine.ropes; r++) {
                if (left[r] == 0 && at[r] == NONE && mine.strong(r) && allows(mine, r)) {
                    at[r] = 0;
                    left[r] = mine.glass[r];
                    last = r;
                    started |= 1 << r;
                }
            }
        }

        private boolean allows(Mine mine, int rope) {
            switch (mine.rule[rope]) {
                case CLEAR:
                    return othersAreFrom(mine, rope, mine.slope);
                case HALF:
                    return othersAreFrom(mine, rope, mine.slope / 2);
                case TURN:
                    return last != rope;
                default:
                    return true;
            }
        }

        /** Whether each other rope that moves is at a place or further; at the slope's end none moves. */
        private boolean othersAreFrom(Mine mine, int rope, int place) {
            for (int r = 0; r < mine.ropes; r++) {
                if (r != rope && at[r] != NONE && at[r] < place) {
                    return false;
                }
            }
            return true;
        }

        /** The state as a number; also one with harm, in which a rope may be at the slope's end. */
        private long key() {
            long key = 0;
            for (int r = ROPES - 1; r >= 0; r--) {
                key = key << LEFT_BITS | left[r];
                key = key << AT_BITS | at[r] + 1;
            }
            return key << LAST_BITS | last + 1;
        }

        private void take(long key) {
            long rest = key;
            last = (int) (rest & (1 << LAST_BITS) - 1) - 1;
            rest >>>= LAST_BITS;
            for (int r = 0; r < ROPES; r++) {
                at[r] = (int) (rest & (1 << AT_BITS) - 1) - 1;
                rest >>>= AT_BITS;
                left[r] = (int) (rest & (1 << LEFT_BITS) - 1);
                rest >>>= LEFT_BITS;
            }
        }

        /** By how much a key grows with one second more in a rope's glass. */
        private static long oneLeft(int rope) {
            return 1L << LAST_BITS + AT_BITS + rope * (AT_BITS + LEFT_BITS);
        }

        /** Where the ropes are, whatever their glasses hold, as a number. */
        private int places() {
            int places = 0;
            for (int r = ROPES - 1; r >= 0; r--) {
                places = places << AT_BITS | at[r] + 1;
            }
            return places;
        }

        private void takePlaces(int places) {
            for (int r = 0; r < ROPES; r++) {
                at[r] = (places >> r * AT_BITS & (1 << AT_BITS) - 1) - 1;
            }
        }

        private void copy(Cars other) {
            System.arraycopy(other.at, 0, at, 0, ROPES);
            System.arraycopy(other.left, 0, left, 0, ROPES);
            last = other.last;
        }
    }

    /** All that an image keeps: the state now, what went by, what was told and refused. */
    private static final class Day {
        private static final int UNDOABLE = 300;
        private static final int TIMES = 8;
        private static final int LAST_SECOND = 200;
        private static final int REFUSALS = 3;

        private final Cars cars = new Cars();
        private int seconds;
        private int ore;
        private int harm;
        private final int[] slips = new int[ROPES];
        private final long[] pastKeys = new long[UNDOABLE];
        private final int[] pastOre = new int[UNDOABLE];
        private int next;
        private int undoable;
        private final int[] timeRopes = new int[TIMES];
        private final int[] timeSeconds = new int[TIMES];
        private int times;
        private final int[] refused = new int[REFUSALS];

        /** What was refused stays told, as it is of the object and not of a mine. */
        private void begin(Mine mine) {
            cars.first(mine);
            seconds = 0;
            ore = 0;
            harm = 0;
            Arrays.fill(slips, 0);
            next = 0;
            undoable = 0;
            times = 0;
        }

        private void goBy(Mine mine) {
            remember();
            seconds++;
            harm = cars.pass(mine);
            if (harm != 0) {
                return;
            }
            ore += mine.loads(cars.arrived);
            for (int r = 0; r < mine.ropes; r++) {
                if ((cars.started >> r & 1) != 0) {
                    cars.left[r] += slips[r];
                }
            }
        }

        private void remember() {
            if (next < 0 || next >= UNDOABLE) {
                next = 0;
            }
            pastKeys[next] = cars.key();
            pastOre[next] = ore;
            next++;
            undoable = Math.min(undoable + 1, UNDOABLE);
        }

        private void goBack() {
            if (undoable <= 0) {
                return;
            }
            next = next <= 0 ? UNDOABLE - 1 : next - 1;
            undoable--;
            cars.take(pastKeys[next]);
            ore = pastOre[next];
            seconds--;
            harm = 0;
        }

        private boolean tell(int rope, int second) {
            if (times >= TIMES || second < 1 || second > LAST_SECOND || !isBehindLast(rope, second)) {
                return false;
            }
            timeRopes[times] = rope;
            timeSeconds[times] = second;
            times++;
            return true;
        }

        private boolean isBehindLast(int rope, int second) {
            if (times == 0) {
                return true;
            }
            int before = timeSeconds[times - 1];
            return second > before || second == before && rope > timeRopes[times - 1];
        }

        private int lastTime() {
            return times == 0 ? 0 : timeSeconds[times - 1];
        }

        /** Writes down for each second the ropes, as bits, that are told to arrive at its end. */
        private void tellAll(int[] told) {
            Arrays.fill(told, 0);
            for (int i = 0; i < times; i++) {
                if (timeSeconds[i] < told.length) {
                    told[timeSeconds[i]] |= 1 << timeRopes[i];
                }
            }
        }

        private void copy(Day other) {
            cars.copy(other.cars);
            seconds = other.seconds;
            ore = other.ore;
            harm = other.harm;
            System.arraycopy(other.slips, 0, slips, 0, ROPES);
            System.arraycopy(other.pastKeys, 0, pastKeys, 0, UNDOABLE);
            System.arraycopy(other.pastOre, 0, pastOre, 0, UNDOABLE);
            next = other.next;
            undoable = other.undoable;
            System.arraycopy(other.timeRopes, 0, timeRopes, 0, TIMES);
            System.arraycopy(other.timeSeconds, 0, timeSeconds, 0, TIMES);
            times = other.times;
            System.arraycopy(other.refused, 0, refused, 0, REFUSALS);
        }
    }

    /** Keys that were come to, each once, in the order in which they came. */
    private static final class Found {
        private static final int LIMIT = 4000;
        private static final int SLOT_BITS = 13;
        private static final int SLOTS = 1 << SLOT_BITS;
        private static final long SPREAD = 0x9E3779B97F4A7C15L;

        private final long[] keys = new long[LIMIT];
        private final int[] values = new int[LIMIT];
        private final int[] slots = new int[SLOTS];
        private int size = 0;

        private void clear() {
            Arrays.fill(slots, 0);
            size = 0;
        }

        /** False: it is one too many. */
        private boolean add(long key) {
            int slot = slotOf(key);
            if (slots[slot] != 0) {
                return true;
            }
            if (size >= LIMIT) {
                return false;
            }
            keys[size] = key;
            size++;
            slots[slot] = size;
            return true;
        }

        private int indexOf(long key) {
            return slots[slotOf(key)] - 1;
        }

        /** The key's slot, or the free one in which it belongs; fewer keys than slots leave one free. */
        private int slotOf(long key) {
            int slot = (int) (key * SPREAD >>> 64 - SLOT_BITS);
            for (int tried = 0; tried < SLOTS; tried++) {
                int index = slots[slot] - 1;
                if (index < 0 || keys[index] == key) {
                    return slot;
                }
                slot = slot + 1 & SLOTS - 1;
            }
            return slot;
        }
    }

    /** All states that can be come to, second by second, by all slips. */
    private static final class Safety {
        private final Cars cars = new Cars();
        private boolean known = false;
        private boolean spent = false;
        private int soonest = NONE;
        private int states = 0;

        private void search(Mine mine, Found found) {
            known = true;
            spent = false;
            soonest = NONE;
            found.clear();
            cars.first(mine);
            found.add(cars.key());
            int second = 1;
            int secondEnds = 1;
            for (int i = 0; i < found.size && i < Found.LIMIT && !spent; i++) {
                if (i == secondEnds) {
                    second++;
                    secondEnds = found.size;
                }
                cars.take(found.keys[i]);
                if (cars.pass(mine) == 0) {
                    spent = !addAll(mine, found);
                } else if (soonest == NONE) {
                    soonest = second;
                }
            }
            states = found.size;
        }

        private boolean addAll(Mine mine, Found found) {
            long key = cars.key();
            int most0 = mostSlip(mine, 0);
            int most1 = mostSlip(mine, 1);
            int most2 = mostSlip(mine, 2);
            for (int a = 0; a <= most0; a++) {
                for (int b = 0; b <= most1; b++) {
                    for (int c = 0; c <= most2; c++) {
                        if (!found.add(key + a * Cars.oneLeft(0) + b * Cars.oneLeft(1) + c * Cars.oneLeft(2))) {
                            return false;
                        }
                    }
                }
            }
            return true;
        }

        private int mostSlip(Mine mine, int rope) {
            return (cars.started >> rope & 1) == 0 ? 0 : mine.slips[rope];
        }
    }

    /** The most ore by starts that are chosen, and the first of the plans for it. */
    private static final class Planner {
        private static final int PLACE_BITS = ROPES * Cars.AT_BITS;
        private static final int LOST = -1;

        private final Cars cars = new Cars();
        private final int[] starts = new int[PLANNED + 1];
        private int length = 0;

        private int search(Mine mine, Found found, int n) {
            cars.first(mine);
            if (!spread(mine, found, n)) {
                return SPENT;
            }
            value(mine, found, n);
            cars.first(mine);
            int most = bestFrom(mine, found, 0);
            keep(mine, found, n, most);
            return most;
        }

        /** Comes to all couples of a second and places, in the order of seconds; false: too many. */
        private boolean spread(Mine mine, Found found, int n) {
            found.clear();
            if (!addStarts(mine, found, 0)) {
                return false;
            }
            for (int i = 0; i < found.size && i < Found.LIMIT; i++) {
                int second = secondOf(found.keys[i]);
                if (second >= n) {
                    break;
                }
                if (roll(mine, found.keys[i]) && !addStarts(mine, found, second + 1)) {
                    return false;
                }
            }
            return true;
        }

        private static int secondOf(long key) {
            return (int) (key >>> PLACE_BITS);
        }

        /** Whether the second behind a couple goes by without harm; the cars are then where it leaves them. */
        private boolean roll(Mine mine, long key) {
            cars.takePlaces((int) (key & (1 << PLACE_BITS) - 1));
            return cars.roll(mine) == 0;
        }

        private boolean addStarts(Mine mine, Found found, int second) {
            int waiting = waiting(mine);
            long key = keyNow(second);
            for (int bits = 0; bits <= waiting; bits++) {
                if ((bits & ~waiting) == 0 && !found.add(key + started(bits))) {
                    return false;
                }
            }
            return true;
        }

        /** The ropes, as bits, that may be started. */
        private int waiting(Mine mine) {
            int waiting = 0;
            for (int r = 0; r < mine.ropes; r++) {
                if (cars.at[r] == NONE && mine.strong(r)) {
                    waiting |= 1 << r;
                }
            }
            return waiting;
        }

        private long keyNow(int second) {
            return (long) second << PLACE_BITS | cars.places();
        }

        /** By how much a key grows with the starts of ropes that wait. */
        private static int started(int bits) {
            int more = 0;
            for (int r = 0; r < ROPES; r++) {
                more |= (bits >> r & 1) << r * Cars.AT_BITS;
            }
            return more;
        }

        /** Of each couple the most ore that can still come, from the last second back to the first. */
        private void value(Mine mine, Found found, int n) {
            for (int i = Math.min(found.size, Found.LIMIT) - 1; i >= 0; i--) {
                int second = secondOf(found.keys[i]);
                if (second >= n) {
                    found.values[i] = 0;
                } else if (roll(mine, found.keys[i])) {
                    int ore = mine.loads(cars.arrived);
                    int rest = bestFrom(mine, found, second + 1);
                    found.values[i] = rest == LOST ? LOST : ore + rest;
                } else {
                    found.values[i] = LOST;
                }
            }
        }

        private int bestFrom(Mine mine, Found found, int second) {
            int waiting = waiting(mine);
            long key = keyNow(second);
            int best = LOST;
            for (int bits = 0; bits <= waiting; bits++) {
                if ((bits & ~waiting) == 0) {
                    best = Math.max(best, valueOf(found, key + started(bits)));
                }
            }
            return best;
        }

        private static int valueOf(Found found, long key) {
            int index = found.indexOf(key);
            return index < 0 ? LOST : found.values[index];
        }

        private void keep(Mine mine, Found found, int n, int most) {
            int rest = most;
            for (int second = 0; second <= n && second <= PLANNED; second++) {
                int bits = firstWorth(mine, found, second, rest);
                starts[second] = bits;
                roll(mine, keyNow(second) + started(bits));
                rest -= mine.loads(cars.arrived);
            }
            length = n + 1;
        }

        private int firstWorth(Mine mine, Found found, int second, int rest) {
            int waiting = waiting(mine);
            long key = keyNow(second);
            for (int bits = 0; bits <= waiting; bits++) {
                if ((bits & ~waiting) == 0 && valueOf(found, key + started(bits)) == rest) {
                    return bits;
                }
            }
            return 0;
        }
    }

    /** How many rows of slips fit the told times. */
    private static final class Fitter {
        private static final int TURNS = 20000;
        private static final int DEEPEST = 40;

        private final Cars cars = new Cars();
        private final int[] told = new int[Day.LAST_SECOND + 1];
        private int end = 0;
        private int turns = 0;

        private int search(Mine mine, Day day) {
            day.tellAll(told);
            end = day.lastTime();
            turns = 0;
            cars.first(mine);
            int rows = rowsFrom(mine, cars.key(), 0, 0);
            return turns > TURNS ? SPENT : rows;
        }

        /** The rows behind a second; a row that arrives otherwise than told is left at once, so few turns are open. */
        private int rowsFrom(Mine mine, long key, int second, int depth) {
            cars.take(key);
            for (int s = second + 1; s <= end && s < told.length; s++) {
                if (cars.pass(mine) != 0 || cars.arrived != told[s]) {
                    return 0;
                }
                if (cars.started != 0) {
                    return rowsByTurns(mine, cars.key(), s, cars.started, depth);
                }
            }
            return 1;
        }

        private int rowsByTurns(Mine mine, long key, int second, int started, int depth) {
            if (depth > DEEPEST) {
                return 0;
            }
            int rope = (started & 1) != 0 ? 0 : (started & 2) != 0 ? 1 : 2;
            int others = started & ~(1 << rope);
            int rows = 0;
            for (int slip = 0; slip <= mine.slips[rope] && turns <= TURNS; slip++) {
                turns++;
                long next = key + slip * Cars.oneLeft(rope);
                rows += others != 0
                        ? rowsByTurns(mine, next, second, others, depth + 1)
                        : rowsFrom(mine, next, second, depth + 1);
            }
            return rows;
        }
    }

    /** What would be, tried on cars of its own. */
    private static final class Trial {
        private static final int LOOSE_PACE = 3;

        private final Cars cars = new Cars();

        /** Ore from the first state on, by slips of 0, till harm. */
        private int oreIn(Mine mine, int n) {
            int ore = 0;
            cars.first(mine);
            for (int s = 0; s < n; s++) {
                if (cars.pass(mine) != 0) {
                    return ore;
                }
                ore += mine.loads(cars.arrived);
            }
            return ore;
        }

        /** The second in which a car of a rope that breaks now meets another rope's; one that stays at L meets none. */
        private int firstMeeting(Mine mine, Cars now, int rope) {
            cars.copy(now);
            int loaded = cars.at[rope];
            int empty = mine.slope - loaded;
            cars.at[rope] = NONE;
            for (int second = 1; second <= mine.slope; second++) {
                int loadedNow = Math.min(mine.slope, loaded + LOOSE_PACE);
                int emptyNow = Math.min(mine.slope, empty + LOOSE_PACE);
                cars.goOn(mine);
                if (meetsOne(mine, loaded, loadedNow) || meetsOne(mine, empty, emptyNow)) {
                    return second;
                }
                cars.arrive(mine);
                loaded = loadedNow;
                empty = emptyNow;
            }
            return NONE;
        }

        private boolean meetsOne(Mine mine, int was, int now) {
            for (int car = 0; car < 2 * mine.ropes; car++) {
                if (cars.was[car] != NONE && mine.meet(was, now, cars.was[car], cars.now[car])) {
                    return true;
                }
            }
            return false;
        }
    }
}
