import java.util.Arrays;

/**
 * A carriage hirer's yard for one day. Words in capitals are the document's terms.
 *
 * <p>The face hands each call on: the HORSES are in Stable, WAYS and JOBS in Day, BEST in Lays, TEAMS in Teams, the text
 * of PRICES in Tape, PriceReader, PriceList and Pricer, and the breaks in Book. The rows are made once, with the object,
 * so that calls make next to nothing.
 */
public final class CarriageHire {
    public static final int NONE = -1;

    private static final int NO_LAY = -2;
    private static final int HORSES_MAX = 16;
    private static final int STRENGTH_MAX = 1000;
    private static final int PLACES = 8;
    private static final int YARD = 0;
    private static final int JOBS_MAX = 10;
    private static final int STATION = 2;
    private static final int CARRIAGES_MAX = 6;
    private static final int LATE_MAX = 1000;
    private static final int TEXT_MAX = 600;
    private static final int LINES_MAX = 10;
    private static final int OPERANDS_MAX = 100;
    private static final int DEPTH_MAX = 8;

    // What a PriceList's codes mean: a NUMBER is itself, a sign between two values its byte below 0, NAMES and words
    // have what stands here (NAMES first: they are a row in Pricer).
    private static final int CODE_KIND = -1;
    private static final int CODE_WAY = -2;
    private static final int CODE_WAIT = -3;
    private static final int CODE_BEGIN = -4;
    private static final int CODE_HORSES = -5;
    private static final int CODE_LATE = -6;
    private static final int CODE_OR = -7;
    private static final int CODE_AND = -8;
    private static final int CODE_NOT = -9;
    private static final int CODE_NEGATE = -10;

    private final Stable stable;
    private final Day day;
    private final Lays lays;
    private final Teams teams;
    private final Tape tape;
    private final PriceReader reader;
    private final Pricer pricer;
    private final Book book;
    private PriceList standing;

    public CarriageHire() {
        stable = new Stable();
        day = new Day();
        lays = new Lays(day);
        teams = new Teams(stable, day);
        tape = new Tape();
        reader = new PriceReader(tape);
        pricer = new Pricer();
        book = new Book();
        standing = new PriceList(new int[0], new int[0], new int[0]);
    }

    public int horse(int colour, int height, int pace, int strength) {
        return stable.add(colour, height, pace, strength);
    }

    public boolean lame(int horse, boolean is) {
        return stable.setLame(horse, is);
    }

    public boolean spans(int height, int pace) {
        return stable.setSpans(height, pace);
    }

    public boolean way(int a, int b, int minutes) {
        return day.setWay(a, b, minutes);
    }

    public boolean carriages(int n) {
        return day.setCarriages(n);
    }

    public boolean need(int strength) {
        return teams.setLeast(strength);
    }

    public boolean match(int horses) {
        return Integer.bitCount(horses) >= 2 && stable.hasAll(horses) && stable.allAlike(horses);
    }

    public int matches(int n) {
        return n == 2 || n == 4 ? stable.countSets(n) : NONE;
    }

    public int job(int kind, int from, int to, int begin, int wait, int horses) {
        return day.book(kind, from, to, begin, wait, horses, standing);
    }

    public boolean drop(int job) {
        return day.cancel(job);
    }

    public int of(int job, int what) {
        Job asked = day.find(job);
        if (asked == null) {
            return NONE;
        }
        switch (what) {
            case 0:
                return day.endOf(asked);
            case 1:
                return asked.team;
            case 2:
                return asked.dropped ? 1 : 0;
            case 3:
                return asked.booked.countLines();
            default:
                return NONE;
        }
    }

    public boolean behind(int a, int b) {
        Job ahead = day.findKept(a);
        Job next = day.findKept(b);
        return a != b && ahead != null && next != null && day.mayFollow(ahead, next);
    }

    public int empty() {
        lays.refresh();
        return lays.minutes;
    }

    public int chains() {
        lays.refresh();
        return lays.chainCount;
    }

    public int chain(int job) {
        lays.refresh();
        return lays.chainNumber(job);
    }

    public boolean team(int job, int horses) {
        return teams.harness(job, horses);
    }

    public int right(int job) {
        return teams.standingOf(job);
    }

    public int strength(int job, int horse) {
        return teams.isHarnessed(job, horse) ? teams.strengthAt(job, horse) : NONE;
    }

    public int standIn(int job, int horse) {
        return teams.isHarnessed(job, horse) ? teams.bestStandIn(job, horse) : NONE;
    }

    public int feed(int a, int b, int c, int d, int e) {
        return tape.appendAll(a, b, c, d, e);
    }

    public int end(int n) {
        return tape.cutTo(n);
    }

    public int prices() {
        PriceList read = reader.readAll();
        tape.cutTo(0);
        if (read == null) {
            return NONE;
        }
        standing = read;
        return read.countLines();
    }

    public int fault(int what) {
        switch (what) {
            case 0:
                return reader.faultKind;
            case 1:
                return reader.faultPlace;
            default:
                return NONE;
        }
    }

    public int price(int job, int late) {
        Job asked = day.find(job);
        if (asked == null || !within(late, 0, LATE_MAX)) {
            return 0;
        }
        return pricer.quote(asked, day.minutesBetween(asked.from, asked.to), late);
    }

    public int broken(int carriage, int from, int to, int told) {
        return book.enter(carriage, from, to, told);
    }

    public boolean untell(int entry, int minute) {
        return book.takeBack(entry, minute);
    }

    public int whole(int carriage, int m, int k) {
        return book.wholeAt(carriage, m, k);
    }

    public int free(int carriage, int m, int n, int k) {
        return book.firstFree(carriage, m, n, k);
    }

    public int about(int what) {
        switch (what) {
            case 0:
                return stable.count;
            case 1:
                return day.count;
            case 2:
                return day.carriages;
            case 3:
                return standing.countLines();
            case 4:
                return book.count;
            case 5:
                return tape.length;
            default:
                return NONE;
        }
    }

    private static boolean within(int value, int least, int most) {
        return value >= least && value <= most;
    }

    private static boolean hasBit(int bits, int number) {
        return (bits >>> number & 1) != 0;
    }

    private static final class Horse {
        final int colour;
        final int height;
        final int pace;
        final int strength;
        boolean lame;

        Horse(int colour, int height, int pace, int strength) {
            this.colour = colour;
            this.height = height;
            this.pace = pace;
            this.strength = strength;
        }
    }

    /** The HORSES and which of them MATCH. */
    private static final class Stable {
        private final Horse[] horses = new Horse[HORSES_MAX];
        private final int[] laterMates = new int[HORSES_MAX];
        private int count;
        private int heightSpan = 5;
        private int paceSpan = 2;

        int add(int colour, int height, int pace, int strength) {
            boolean canBe = within(colour, 0, 7) && within(height, 100, 200) && within(pace, 1, 20)
                    && within(strength, 0, STRENGTH_MAX);
            if (!canBe || count >= HORSES_MAX) {
                return NONE;
            }
            horses[count] = new Horse(colour, height, pace, strength);
            count++;
            return count - 1;
        }

        boolean has(int number) {
            return number >= 0 && number < count;
        }

        boolean hasAll(int bits) {
            return bits >>> count == 0;
        }

        boolean setLame(int number, boolean is) {
            if (!has(number)) {
                return false;
            }
            horses[number].lame = is;
            return true;
        }

        boolean setSpans(int height, int pace) {
            if (!within(height, 0, 50) || !within(pace, 0, 10)) {
                return false;
            }
            heightSpan = height;
            paceSpan = pace;
            return true;
        }

        int firstStrength(int number) {
            return has(number) ? horses[number].strength : 0;
        }

        int difference(int a, int b) {
            if (!has(a) || !has(b)) {
                return 0;
            }
            return Math.abs(horses[a].height - horses[b].height) + 5 * Math.abs(horses[a].pace - horses[b].pace);
        }

        boolean anyLame(int bits) {
            for (int n = 0; n < count; n++) {
                if (hasBit(bits, n) && horses[n].lame) {
                    return true;
                }
            }
            return false;
        }

        boolean allAlike(int bits) {
            for (int a = 0; a < count; a++) {
                for (int b = a + 1; b < count; b++) {
                    if (hasBit(bits, a) && hasBit(bits, b) && !alike(horses[a], horses[b])) {
                        return false;
                    }
                }
            }
            return true;
        }

        private boolean alike(Horse a, Horse b) {
            return a.colour == b.colour && Math.abs(a.height - b.height) <= heightSpan
                    && Math.abs(a.pace - b.pace) <= paceSpan;
        }

        int countSets(int size) {
            pairUp();
            int sets = 0;
            for (int a = 0; a < count; a++) {
                sets += size == 2 ? Integer.bitCount(laterMates[a]) : countFours(a);
            }
            return sets;
        }

        // HORSES MATCH as soon as each two of them do, so sets can be counted from the pairs alone.
        private void pairUp() {
            for (int a = 0; a < count; a++) {
                laterMates[a] = 0;
                for (int b = a + 1; b < count; b++) {
                    if (alike(horses[a], horses[b])) {
                        laterMates[a] |= 1 << b;
                    }
                }
            }
        }

        private int countFours(int a) {
            int fours = 0;
            for (int b = a + 1; b < count; b++) {
                int ofTwo = hasBit(laterMates[a], b) ? laterMates[a] & laterMates[b] : 0;
                for (int c = b + 1; c < count; c++) {
                    fours += hasBit(ofTwo, c) ? Integer.bitCount(ofTwo & laterMates[c]) : 0;
                }
            }
            return fours;
        }
    }

    private static final class Job {
        final int kind;
        final int from;
        final int to;
        final int begin;
        final int wait;
        final int horses;
        final PriceList booked;
        int team;
        boolean dropped;

        Job(int kind, int from, int to, int begin, int wait, int horses, PriceList booked) {
            this.kind = kind;
            this.from = from;
            this.to = to;
            this.begin = begin;
            this.wait = wait;
            this.horses = horses;
            this.booked = booked;
        }
    }

    /** WAYS, JOBS and CARRIAGES: all on which BEST depends, with a count of its changes. */
    private static final class Day {
        private final int[] ways = new int[PLACES * PLACES];
        private final Job[] jobs = new Job[JOBS_MAX];
        private final int[] byBegin = new int[JOBS_MAX];
        private int count;
        private int carriages = 2;
        private int changes;

        boolean setWay(int a, int b, int minutes) {
            if (!isPlace(a) || !isPlace(b) || a == b || !within(minutes, 0, 300)) {
                return false;
            }
            ways[a * PLACES + b] = minutes;
            ways[b * PLACES + a] = minutes;
            changes++;
            return true;
        }

        private static boolean isPlace(int place) {
            return within(place, 0, PLACES - 1);
        }

        int minutesBetween(int a, int b) {
            int at = a * PLACES + b;
            return at >= 0 && at < ways.length ? ways[at] : 0;
        }

        boolean setCarriages(int n) {
            if (!within(n, 1, CARRIAGES_MAX)) {
                return false;
            }
            carriages = n;
            changes++;
            return true;
        }

        int book(int kind, int from, int to, int begin, int wait, int horses, PriceList booked) {
            boolean canBe = within(kind, 0, STATION) && isPlace(from) && isPlace(to) && within(begin, 0, 1400)
                    && within(wait, 0, 300) && (horses == 1 || horses == 2 || horses == 4);
            if (!canBe || count >= JOBS_MAX) {
                return NONE;
            }
            jobs[count] = new Job(kind, from, to, begin, wait, horses, booked);
            putInOrder(count, begin);
            count++;
            changes++;
            return count - 1;
        }

        // A new JOB has the greatest number, so it comes behind all that BEGIN when it does.
        private void putInOrder(int number, int begin) {
            int at = number;
            while (at > 0 && jobs[byBegin[at - 1]].begin > begin) {
                byBegin[at] = byBegin[at - 1];
                at--;
            }
            byBegin[at] = number;
        }

        boolean cancel(int number) {
            Job job = findKept(number);
            if (job == null) {
                return false;
            }
            job.dropped = true;
            changes++;
            return true;
        }

        Job find(int number) {
            return number >= 0 && number < count ? jobs[number] : null;
        }

        Job findKept(int number) {
            Job job = find(number);
            return job == null || job.dropped ? null : job;
        }

        /** The number of the JOB at a place in the order of BEGIN, NONE if there are not so many. */
        int numberInOrder(int at) {
            return at >= 0 && at < count ? byBegin[at] : NONE;
        }

        int keptBits() {
            int bits = 0;
            for (int n = 0; n < count; n++) {
                bits |= jobs[n].dropped ? 0 : 1 << n;
            }
            return bits;
        }

        int endOf(Job job) {
            return job.begin + minutesBetween(job.from, job.to) + job.wait;
        }

        boolean mayFollow(Job ahead, Job next) {
            return endOf(ahead) + minutesBetween(ahead.to, next.from) <= next.begin;
        }

        int costOf(Job job) {
            int perMinute = job.kind == STATION ? 3 : 2;
            return perMinute * minutesBetween(job.from, job.to) + job.wait / 2;
        }
    }

    /**
     * Finds BEST.
     *
     * <p>Each set of JOBS has a key: its EMPTY minutes above, below them four bits for each JOB, JOB 0 highest, with
     * the least JOB of its CHAIN. CHAINS are numbered by their least JOBS, so the lesser key is the LAY that comes
     * ahead; and the key of a LAY is the sum of its CHAINS' keys, so the least one can be put together from parts.
     */
    private static final class Lays {
        private static final int BITS_PER_JOB = 4;
        private static final int BITS_BELOW = BITS_PER_JOB * JOBS_MAX;
        // Two of these can be added without wrapping.
        private static final long IMPOSSIBLE = 1L << 61;

        private final Day day;
        private final long[] chainKeys = new long[1 << JOBS_MAX];
        private final long[] layKeys = new long[1 << JOBS_MAX];
        private final int[] chainOf = new int[JOBS_MAX];
        private int seenChanges = NONE;
        private int minutes;
        private int chainCount;

        Lays(Day day) {
            this.day = day;
        }

        int chainNumber(int number) {
            return number >= 0 && number < chainOf.length ? chainOf[number] : NONE;
        }

        void refresh() {
            if (seenChanges == day.changes) {
                return;
            }
            seenChanges = day.changes;
            int kept = day.keptBits();
            weighChains(kept);
            long best = leastLay(kept, day.carriages);
            Arrays.fill(chainOf, NONE);
            if (best >= IMPOSSIBLE) {
                minutes = NO_LAY;
                chainCount = NO_LAY;
                return;
            }
            minutes = (int) (best >>> BITS_BELOW);
            numberChains(best, kept);
        }

        private void weighChains(int kept) {
            for (int set = kept; set > 0; set = (set - 1) & kept) {
                chainKeys[set] = chainKey(set);
                layKeys[set] = chainKeys[set];
            }
        }

        private long chainKey(int set) {
            long sum = 0;
            Job ahead = null;
            for (int at = 0; at < day.count; at++) {
                int number = day.numberInOrder(at);
                Job next = day.find(number);
                if (next == null || !hasBit(set, number)) {
                    continue;
                }
                if (ahead != null && !day.mayFollow(ahead, next)) {
                    return IMPOSSIBLE;
                }
                sum += day.minutesBetween(ahead == null ? YARD : ahead.to, next.from);
                ahead = next;
            }
            sum += ahead == null ? 0 : day.minutesBetween(ahead.to, YARD);
            return (sum << BITS_BELOW) + leastJobs(set);
        }

        private static long leastJobs(int set) {
            int least = NONE;
            long bits = 0;
            for (int n = 0; n < JOBS_MAX; n++) {
                if (hasBit(set, n)) {
                    least = least == NONE ? n : least;
                    bits += (long) least << shiftOf(n);
                }
            }
            return bits;
        }

        private static int shiftOf(int number) {
            return BITS_PER_JOB * (JOBS_MAX - 1 - number);
        }

        private long leastLay(int kept, int most) {
            if (kept == 0) {
                return 0;
            }
            if (most == 1) {
                return chainKeys[kept];
            }
            int withoutLeast = kept & (kept - 1);
            for (int chains = 2; chains < most; chains++) {
                // From the greatest set down: the lesser ones still have their keys with one CHAIN fewer.
                for (int set = withoutLeast; set > 0; set = (set - 1) & withoutLeast) {
                    layKeys[set] = leastSplit(set);
                }
            }
            return leastSplit(kept);
        }

        /** The least key of a set as the CHAIN of its least JOB and a LAY of the others. */
        private long leastSplit(int set) {
            int first = set & -set;
            int others = set ^ first;
            long least = chainKeys[first] + layKeys[others];
            for (int part = others; part > 0; part = (part - 1) & others) {
                least = Math.min(least, chainKeys[first | part] + layKeys[others ^ part]);
            }
            return Math.min(least, IMPOSSIBLE);
        }

        private void numberChains(long key, int kept) {
            chainCount = 0;
            for (int n = 0; n < JOBS_MAX; n++) {
                if (!hasBit(kept, n)) {
                    continue;
                }
                int least = (int) (key >>> shiftOf(n)) & 15;
                if (least < n) {
                    chainOf[n] = chainOf[least];
                } else {
                    chainOf[n] = chainCount;
                    chainCount++;
                }
            }
        }
    }

    /** TEAMS: whether all is RIGHT with them, and who could stand in. */
    private static final class Teams {
        private final Stable stable;
        private final Day day;
        private int leastStrength;

        Teams(Stable stable, Day day) {
            this.stable = stable;
            this.day = day;
        }

        boolean setLeast(int strength) {
            if (!within(strength, 0, 500)) {
                return false;
            }
            leastStrength = strength;
            return true;
        }

        boolean harness(int number, int horses) {
            Job job = day.findKept(number);
            boolean canBe = job != null && stable.hasAll(horses)
                    && (horses == 0 || Integer.bitCount(horses) == job.horses);
            if (canBe) {
                job.team = horses;
            }
            return canBe;
        }

        boolean isHarnessed(int number, int horse) {
            Job job = day.findKept(number);
            return job != null && stable.has(horse) && hasBit(job.team, horse);
        }

        int standingOf(int number) {
            Job job = day.findKept(number);
            if (job == null) {
                return NONE;
            }
            return job.team == 0 ? 1 : flawOf(number, job, job.team);
        }

        /** 2 to 5, or 0, for a JOB if it had this TEAM. */
        private int flawOf(int number, Job job, int team) {
            if (!stable.allAlike(team)) {
                return 2;
            }
            if (stable.anyLame(team)) {
                return 3;
            }
            if (isElsewhere(number, job, team)) {
                return 4;
            }
            return allFresh(number, job, team) ? 0 : 5;
        }

        private boolean isElsewhere(int number, Job job, int team) {
            for (int n = 0; n < day.count; n++) {
                Job other = day.findKept(n);
                if (other != null && n != number && (other.team & team) != 0
                        && !day.mayFollow(job, other) && !day.mayFollow(other, job)) {
                    return true;
                }
            }
            return false;
        }

        private boolean allFresh(int number, Job job, int team) {
            int wanted = Math.max(day.costOf(job), leastStrength);
            for (int horse = 0; horse < stable.count; horse++) {
                if (hasBit(team, horse) && strengthAt(number, horse) < wanted) {
                    return false;
                }
            }
            return true;
        }

        /** STRENGTH of a HORSE at the BEGIN of a JOB, as if it were of its TEAM. */
        int strengthAt(int number, int horse) {
            int strength = stable.firstStrength(horse);
            Job ahead = null;
            for (int at = 0; at < day.count; at++) {
                int current = day.numberInOrder(at);
                Job next = day.findKept(current);
                if (next == null || current != number && !hasBit(next.team, horse)) {
                    continue;
                }
                if (ahead != null) {
                    int rest = Math.max(next.begin - day.endOf(ahead), 0);
                    strength = Math.min(strength + rest, STRENGTH_MAX);
                }
                if (current == number) {
                    return strength;
                }
                strength = Math.max(strength - day.costOf(next), 0);
                ahead = next;
            }
            return strength;
        }

        int bestStandIn(int number, int horse) {
            Job job = day.findKept(number);
            if (job == null) {
                return NONE;
            }
            int best = NONE;
            for (int other = 0; other < stable.count; other++) {
                boolean closer = best == NONE || stable.difference(other, horse) < stable.difference(best, horse);
                int team = job.team & ~(1 << horse) | 1 << other;
                if (closer && !hasBit(job.team, other) && flawOf(number, job, team) == 0) {
                    best = other;
                }
            }
            return best;
        }
    }

    /** The bytes from which PRICES are read. */
    private static final class Tape {
        private final byte[] bytes = new byte[TEXT_MAX];
        private int length;

        int appendAll(int a, int b, int c, int d, int e) {
            if (length + 20 > TEXT_MAX) {
                return NONE;
            }
            append(a);
            append(b);
            append(c);
            append(d);
            append(e);
            return length;
        }

        private void append(int four) {
            for (int shift = 24; shift >= 0 && length < bytes.length; shift -= 8) {
                bytes[length] = (byte) (four >>> shift);
                length++;
            }
        }

        int cutTo(int n) {
            if (!within(n, 0, length)) {
                return NONE;
            }
            length = n;
            return n;
        }

        /** A byte (0 .. 255), NONE beyond the end. */
        int byteAt(int place) {
            return place >= 0 && place < length ? bytes[place] & 255 : NONE;
        }
    }

    /**
     * PRICES as read: the codes of all lines in a row, values ahead of what joins them. A line's when goes up to its
     * entry in whenEnds (at once, if it has none), its price from there up to its entry in priceEnds.
     */
    private static final class PriceList {
        private final int[] codes;
        private final int[] whenEnds;
        private final int[] priceEnds;

        PriceList(int[] codes, int[] whenEnds, int[] priceEnds) {
            this.codes = codes;
            this.whenEnds = whenEnds;
            this.priceEnds = priceEnds;
        }

        int countLines() {
            return Math.min(whenEnds.length, priceEnds.length);
        }
    }

    /**
     * Reads PRICES from the TAPE, from left to right, and stops at the first FAULT. A token is only looked at when all
     * ahead of it can stand, so the FAULT that is found first is the first by its place.
     */
    private static final class PriceReader {
        private static final int WORD_MAX = 8;
        private static final int DIGITS_MAX = 6;

        private static final int NO_TOKEN = 1;
        private static final int CANNOT_STAND = 2;
        private static final int NO_SUCH_NAME = 3;

        // A sign's token is its byte; these are less than any of them.
        private static final int AT_END = 0;
        private static final int WHEN = 1;
        private static final int PRICE = 2;
        private static final int OR = 3;
        private static final int AND = 4;
        private static final int NOT = 5;
        private static final int NAME = 6;
        private static final int NUMBER = 7;
        // Nothing accepts this one, so all reading comes to its end behind a FAULT.
        private static final int FAILED = 8;

        // Words as their bytes in a row, which a long has room for: WORD_MAX of them.
        private static final long WORD_WHEN = 0x7768656eL;
        private static final long WORD_PRICE = 0x7072696365L;
        private static final long WORD_OR = 0x6f72L;
        private static final long WORD_AND = 0x616e64L;
        private static final long WORD_NOT = 0x6e6f74L;
        private static final long WORD_KIND = 0x6b696e64L;
        private static final long WORD_WAY = 0x776179L;
        private static final long WORD_WAIT = 0x77616974L;
        private static final long WORD_BEGIN = 0x626567696eL;
        private static final long WORD_HORSES = 0x686f72736573L;
        private static final long WORD_LATE = 0x6c617465L;

        private static final int UNKNOWN = -1000;

        private final Tape tape;
        private final int[] codes = new int[TEXT_MAX];
        private final int[] whenEnds = new int[LINES_MAX];
        private final int[] priceEnds = new int[LINES_MAX];
        private int codeCount;
        private int lines;
        private int operands;
        private int place;
        private int token;
        private int tokenPlace;
        private int tokenCode;
        private int faultKind;
        private int faultPlace = NONE;

        PriceReader(Tape tape) {
            this.tape = tape;
        }

        /** What the TAPE says, null if it has a FAULT. */
        PriceList readAll() {
            codeCount = 0;
            lines = 0;
            operands = 0;
            place = 0;
            faultKind = 0;
            faultPlace = NONE;
            advance();
            for (int line = 0; line <= LINES_MAX && token != AT_END && token != FAILED; line++) {
                readLine();
            }
            if (faultKind != 0) {
                return null;
            }
            return new PriceList(Arrays.copyOf(codes, codeCount), Arrays.copyOf(whenEnds, lines),
                    Arrays.copyOf(priceEnds, lines));
        }

        private void readLine() {
            if (lines >= LINES_MAX) {
                fail(CANNOT_STAND);
                return;
            }
            if (token == WHEN) {
                advance();
                readEither(0);
            }
            whenEnds[lines] = codeCount;
            expect(PRICE);
            readEither(0);
            priceEnds[lines] = codeCount;
            expect(';');
            lines++;
        }

        /** An e. */
        private void readEither(int depth) {
            if (isTooDeep(depth)) {
                return;
            }
            readBoth(depth);
            for (int more = 0; more < TEXT_MAX && token == OR; more++) {
                advance();
                readBoth(depth);
                emit(CODE_OR);
            }
        }

        private void readBoth(int depth) {
            readOne(depth);
            for (int more = 0; more < TEXT_MAX && token == AND; more++) {
                advance();
                readOne(depth);
                emit(CODE_AND);
            }
        }

        private void readOne(int depth) {
            if (isTooDeep(depth)) {
                return;
            }
            if (token == NOT) {
                advance();
                readOne(depth + 1);
                emit(CODE_NOT);
                return;
            }
            readSum(depth);
            if (token == '<' || token == '>' || token == '=') {
                int sign = token;
                advance();
                readSum(depth);
                emit(-sign);
            }
        }

        private void readSum(int depth) {
            readTerm(depth);
            for (int more = 0; more < TEXT_MAX && (token == '+' || token == '-'); more++) {
                int sign = token;
                advance();
                readTerm(depth);
                emit(-sign);
            }
        }

        private void readTerm(int depth) {
            readUnit(depth);
            for (int more = 0; more < TEXT_MAX && (token == '*' || token == '/'); more++) {
                int sign = token;
                advance();
                readUnit(depth);
                emit(-sign);
            }
        }

        private void readUnit(int depth) {
            if (isTooDeep(depth)) {
                return;
            }
            if (token == NUMBER || token == NAME) {
                readOperand();
            } else if (token == '(') {
                advance();
                readEither(depth + 1);
                expect(')');
            } else if (token == '-') {
                advance();
                readUnit(depth + 1);
                emit(CODE_NEGATE);
            } else {
                fail(CANNOT_STAND);
            }
        }

        private void readOperand() {
            if (operands >= OPERANDS_MAX) {
                fail(CANNOT_STAND);
            } else if (token == NAME && tokenCode == UNKNOWN) {
                fail(NO_SUCH_NAME);
            } else {
                emit(tokenCode);
                operands++;
                advance();
            }
        }

        private boolean isTooDeep(int depth) {
            if (depth >= DEPTH_MAX) {
                fail(CANNOT_STAND);
                return true;
            }
            return false;
        }

        private void expect(int wanted) {
            if (token == wanted) {
                advance();
            } else {
                fail(CANNOT_STAND);
            }
        }

        // Only the first FAULT counts: what fails behind it is its consequence.
        private void fail(int kind) {
            if (faultKind == 0) {
                faultKind = kind;
                faultPlace = tokenPlace;
            }
            token = FAILED;
        }

        private void emit(int code) {
            if (codeCount < codes.length) {
                codes[codeCount] = code;
                codeCount++;
            }
        }

        private void advance() {
            while (place < tape.length && isBlank(tape.byteAt(place))) {
                place++;
            }
            tokenPlace = place;
            int first = tape.byteAt(place);
            if (place >= tape.length) {
                token = AT_END;
            } else if (isLetter(first)) {
                takeWord();
            } else if (isDigit(first)) {
                takeNumber();
            } else if (isSign(first)) {
                token = first;
                place++;
            } else {
                fail(NO_TOKEN);
            }
        }

        private void takeWord() {
            long word = 0;
            while (place < tape.length && isLetter(tape.byteAt(place))) {
                word = word << 8 | tape.byteAt(place);
                place++;
            }
            if (place - tokenPlace > WORD_MAX) {
                fail(NO_TOKEN);
                return;
            }
            token = wordToken(word);
            tokenCode = nameCode(word);
        }

        private void takeNumber() {
            int value = 0;
            while (place < tape.length && isDigit(tape.byteAt(place))) {
                value = 10 * value + tape.byteAt(place) - '0';
                place++;
            }
            if (place - tokenPlace > DIGITS_MAX || isLetter(tape.byteAt(place))) {
                fail(NO_TOKEN);
                return;
            }
            token = NUMBER;
            tokenCode = value;
        }

        private static int wordToken(long word) {
            if (word == WORD_WHEN) {
                return WHEN;
            }
            if (word == WORD_PRICE) {
                return PRICE;
            }
            if (word == WORD_OR) {
                return OR;
            }
            if (word == WORD_AND) {
                return AND;
            }
            return word == WORD_NOT ? NOT : NAME;
        }

        private static int nameCode(long word) {
            if (word == WORD_KIND) {
                return CODE_KIND;
            }
            if (word == WORD_WAY) {
                return CODE_WAY;
            }
            if (word == WORD_WAIT) {
                return CODE_WAIT;
            }
            if (word == WORD_BEGIN) {
                return CODE_BEGIN;
            }
            if (word == WORD_HORSES) {
                return CODE_HORSES;
            }
            return word == WORD_LATE ? CODE_LATE : UNKNOWN;
        }

        private static boolean isBlank(int code) {
            return code == 32 || code == 10;
        }

        private static boolean isLetter(int code) {
            return code >= 'a' && code <= 'z';
        }

        private static boolean isDigit(int code) {
            return code >= '0' && code <= '9';
        }

        private static boolean isSign(int code) {
            return code == ';' || within(code, '<', '>') || within(code, '(', '+') || code == '-' || code == '/';
        }
    }

    /** Works out PRICES. */
    private static final class Pricer {
        // Each value on it comes from a NUMBER or NAME of its own, so it can't hold more than there may be of these.
        private final int[] stack = new int[OPERANDS_MAX];
        private final int[] names = new int[CODE_KIND - CODE_LATE + 1];
        private int height;

        int quote(Job job, int way, int late) {
            names[CODE_KIND - CODE_KIND] = job.kind;
            names[CODE_KIND - CODE_WAY] = way;
            names[CODE_KIND - CODE_WAIT] = job.wait;
            names[CODE_KIND - CODE_BEGIN] = job.begin;
            names[CODE_KIND - CODE_HORSES] = job.horses;
            names[CODE_KIND - CODE_LATE] = late;
            PriceList list = job.booked;
            int from = 0;
            for (int line = 0; line < list.countLines(); line++) {
                int whenEnd = list.whenEnds[line];
                int priceEnd = list.priceEnds[line];
                if (whenEnd == from || valueOf(list.codes, from, whenEnd) != 0) {
                    return valueOf(list.codes, whenEnd, priceEnd);
                }
                from = priceEnd;
            }
            return 0;
        }

        private int valueOf(int[] codes, int from, int to) {
            height = 0;
            for (int at = Math.max(from, 0); at < to && at < codes.length; at++) {
                step(codes[at]);
            }
            return pop();
        }

        private void step(int code) {
            if (code >= CODE_LATE) {
                push(code >= 0 ? code : valueOfName(code));
            } else if (code == CODE_NOT) {
                push(pop() == 0 ? 1 : 0);
            } else if (code == CODE_NEGATE) {
                push(-pop());
            } else {
                int right = pop();
                int left = pop();
                push(joined(code, left, right));
            }
        }

        private int valueOfName(int code) {
            int at = CODE_KIND - code;
            return at >= 0 && at < names.length ? names[at] : 0;
        }

        private static int joined(int code, int left, int right) {
            switch (code) {
                case CODE_OR:
                    return left != 0 || right != 0 ? 1 : 0;
                case CODE_AND:
                    return left != 0 && right != 0 ? 1 : 0;
                case -'<':
                    return left < right ? 1 : 0;
                case -'>':
                    return left > right ? 1 : 0;
                case -'=':
                    return left == right ? 1 : 0;
                case -'+':
                    return left + right;
                case -'-':
                    return left - right;
                case -'*':
                    return left * right;
                case -'/':
                    return right == 0 ? 0 : left / right;
                default:
                    return 0;
            }
        }

        private void push(int value) {
            if (height < stack.length) {
                stack[height] = value;
                height++;
            }
        }

        private int pop() {
            if (height <= 0) {
                return 0;
            }
            height--;
            return stack[height];
        }
    }

    /** THE BOOK of breaks. */
    private static final class Book {
        private static final int ENTRIES_MAX = 40;
        private static final int MINUTE_MAX = 3000;
        private static final int TOLD_MAX = 5000;

        private final int[] carriages = new int[ENTRIES_MAX];
        private final int[] froms = new int[ENTRIES_MAX];
        private final int[] tos = new int[ENTRIES_MAX];
        private final int[] tolds = new int[ENTRIES_MAX];
        private final int[] untolds = new int[ENTRIES_MAX];
        private int count;

        int enter(int carriage, int from, int to, int told) {
            boolean canBe = isCarriage(carriage) && within(from, 0, 2000) && to > from && to <= MINUTE_MAX
                    && within(told, 0, TOLD_MAX);
            if (!canBe || count >= ENTRIES_MAX) {
                return NONE;
            }
            carriages[count] = carriage;
            froms[count] = from;
            tos[count] = to;
            tolds[count] = told;
            untolds[count] = NONE;
            count++;
            return count - 1;
        }

        private static boolean isCarriage(int carriage) {
            return within(carriage, 0, CARRIAGES_MAX - 1);
        }

        boolean takeBack(int entry, int minute) {
            if (entry < 0 || entry >= count || untolds[entry] != NONE
                    || !within(minute, tolds[entry], TOLD_MAX)) {
                return false;
            }
            untolds[entry] = minute;
            return true;
        }

        int wholeAt(int carriage, int minute, int known) {
            if (!isCarriage(carriage)) {
                return NONE;
            }
            for (int entry = 0; entry < count; entry++) {
                if (holds(entry, carriage, known) && froms[entry] <= minute && minute < tos[entry]) {
                    return 0;
                }
            }
            return 1;
        }

        private boolean holds(int entry, int carriage, int known) {
            return carriages[entry] == carriage && tolds[entry] <= known
                    && (untolds[entry] == NONE || untolds[entry] > known);
        }

        int firstFree(int carriage, int minute, int length, int known) {
            if (!isCarriage(carriage) || !within(minute, 0, MINUTE_MAX) || !within(length, 1, 500)) {
                return NONE;
            }
            int start = minute;
            // An ENTRY puts the start off once at most, so as many rounds as ENTRIES are enough.
            for (int round = 0; round < count; round++) {
                int before = start;
                for (int entry = 0; entry < count; entry++) {
                    if (holds(entry, carriage, known) && froms[entry] < start + length && tos[entry] > start) {
                        start = tos[entry];
                    }
                }
                if (start == before) {
                    break;
                }
            }
            return start;
        }
    }
}
