import java.util.Random;

/** Promises 17 to 20: TEAMS, how it stands with a JOB, STRENGTH and STAND-INS. */
public final class TeamsTest {
    private static final int NONE = CarriageHire.NONE;

    private TeamsTest() {
    }

    public static void main(String[] args) {
        teamTakesAsManyAsNeeded();
        teamRefusesWhatCannotBe();
        theFirstFlawIsTold();
        flawsGoByAll();
        oneHorseMatches();
        elsewhereAtTheEdge();
        elsewhereByTheOtherJob();
        rightOfNoneOrDropped();
        freshAtTheEdge();
        costByKind();
        strengthGoesThroughTheDay();
        strengthHasItsLimits();
        strengthOfNone();
        likeBeginsGoByNumber();
        standInIsTheClosest();
        standInMustBeRight();
        standInMendsOnlyItsOwn();
        standInOfNone();
        for (int seed = 0; seed < 200; seed++) {
            new Plain(seed).compare();
        }
        Due.finish();
    }

    private static CarriageHire withHorses(int count) {
        CarriageHire x = new CarriageHire();
        for (int n = 0; n < count; n++) {
            x.horse(1, 150, 5, 500);
        }
        return x;
    }

    private static void teamTakesAsManyAsNeeded() {
        CarriageHire x = withHorses(16);
        x.job(0, 0, 0, 0, 0, 1);
        x.job(0, 0, 0, 0, 0, 2);
        x.job(0, 0, 0, 0, 0, 4);
        int[] good = {1 << 15, 0b1001, 0b1000000000001011};
        int[][] bad = {{0b11, 0b1111}, {0b1, 0b111}, {0b111, 0b11111, 0b1}};
        for (int job = 0; job < 3; job++) {
            Due.yes("17: as many as needed", x.team(job, good[job]));
            for (int horses : bad[job]) {
                Due.no("17: fewer or more", x.team(job, horses));
            }
            Due.is("17: it stays", x.of(job, 1), good[job]);
        }
        Due.yes("17: none", x.team(2, 0));
        Due.is("17: none any more", x.of(2, 1), 0);
        Due.is("18: no TEAM", x.right(2), 1);
        Due.is("17: the other's stays", x.of(1, 1), 0b1001);
    }

    private static void teamRefusesWhatCannotBe() {
        CarriageHire x = withHorses(2);
        x.job(0, 0, 0, 0, 0, 1);
        x.job(0, 0, 0, 0, 0, 2);
        x.team(0, 1);
        Due.no("17: no such HORSE", x.team(0, 4));
        Due.no("17: the highest bit", x.team(0, Integer.MIN_VALUE));
        Due.no("17: one is none", x.team(1, 0b101));
        Due.no("17: no such JOB", x.team(2, 1));
        Due.no("17: no such JOB, no TEAM", x.team(2, 0));
        Due.no("17: below", x.team(-1, 1));
        Due.no("17: far beyond", x.team(Integer.MAX_VALUE, 1));
        x.drop(0);
        Due.no("17: dropped", x.team(0, 2));
        Due.no("17: dropped, no TEAM", x.team(0, 0));
        Due.is("17: nothing done", x.of(0, 1), 1);
    }

    private static void theFirstFlawIsTold() {
        CarriageHire x = new CarriageHire();
        x.horse(1, 150, 5, 0);
        x.horse(2, 150, 5, 0);
        x.job(0, 0, 1, 100, 30, 2);
        x.job(0, 0, 1, 100, 30, 1);
        x.way(0, 1, 1);
        x.team(1, 1);
        x.lame(0, true);
        Due.is("18: 1", x.right(0), 1);
        x.team(0, 3);
        Due.is("18: 2 ahead of 3, 4, 5", x.right(0), 2);
        x.horse(1, 150, 5, 0);
        x.team(0, 5);
        Due.is("18: 3 ahead of 4, 5", x.right(0), 3);
        x.lame(0, false);
        Due.is("18: 4 ahead of 5", x.right(0), 4);
        x.team(1, 0);
        Due.is("18: 5", x.right(0), 5);
        x.way(0, 1, 0);
        x.job(0, 0, 0, 100, 0, 1);
        x.team(2, 2);
        Due.is("18: 0 costs nothing", x.right(2), 0);
    }

    private static void flawsGoByAll() {
        CarriageHire x = withHorses(3);
        x.horse(1, 150, 5, 10);
        x.job(0, 0, 0, 0, 22, 4);
        x.team(0, 0b1111);
        Due.is("18: the last is not FRESH", x.right(0), 5);
        x.lame(3, true);
        Due.is("18: the last is LAME", x.right(0), 3);
        x.spans(0, 0);
        x.horse(1, 151, 5, 500);
        x.team(0, 0b10111);
        Due.is("18: the last does not MATCH", x.right(0), 2);
        x.spans(1, 0);
        Due.is("18: all RIGHT", x.right(0), 0);
    }

    private static void oneHorseMatches() {
        CarriageHire x = withHorses(1);
        x.spans(0, 0);
        x.job(0, 0, 0, 0, 0, 1);
        x.team(0, 1);
        Due.no("8: one alone is too few to ask for", x.match(1));
        Due.is("18: one alone does MATCH", x.right(0), 0);
    }

    private static void elsewhereAtTheEdge() {
        CarriageHire x = withHorses(2);
        x.way(0, 1, 10);
        x.way(1, 2, 5);
        x.job(0, 0, 1, 100, 20, 1);
        x.job(0, 2, 2, 135, 0, 1);
        x.team(0, 1);
        x.team(1, 1);
        Due.is("18: may COME BEHIND", x.right(0), 0);
        Due.is("18: may COME BEHIND", x.right(1), 0);
        x.way(1, 2, 6);
        Due.is("18: a minute short", x.right(0), 4);
        Due.is("18: a minute short", x.right(1), 4);
        x.team(1, 2);
        Due.is("18: another HORSE", x.right(0), 0);
        x.team(1, 1);
        x.drop(1);
        Due.is("18: the other JOB is dropped", x.right(0), 0);
    }

    private static void elsewhereByTheOtherJob() {
        CarriageHire x = withHorses(4);
        x.job(0, 0, 0, 100, 20, 2);
        x.job(0, 0, 0, 110, 20, 2);
        x.team(0, 0b0011);
        x.team(1, 0b1100);
        Due.is("18: none is in both", x.right(0), 0);
        x.team(1, 0b0110);
        Due.is("18: one is in both", x.right(0), 4);
        Due.is("18: one is in both", x.right(1), 4);
        x.team(0, 0);
        Due.is("18: in one only", x.right(1), 0);
    }

    private static void rightOfNoneOrDropped() {
        CarriageHire x = withHorses(1);
        Due.is("18: none yet", x.right(0), NONE);
        x.job(0, 0, 0, 100, 20, 1);
        for (int job : new int[] {-1, 1, 10, Integer.MAX_VALUE, Integer.MIN_VALUE}) {
            Due.is("18: right(" + job + ")", x.right(job), NONE);
        }
        x.team(0, 1);
        x.drop(0);
        Due.is("18: dropped", x.right(0), NONE);
    }

    private static void freshAtTheEdge() {
        CarriageHire x = new CarriageHire();
        x.horse(1, 150, 5, 35);
        x.horse(1, 150, 5, 34);
        x.way(0, 1, 10);
        x.job(0, 0, 1, 100, 31, 1);
        x.team(0, 1);
        Due.is("18: 35 is 20 + 15", x.right(0), 0);
        x.team(0, 2);
        Due.is("18: 34 is less", x.right(0), 5);
        x.team(0, 1);
        x.need(35);
        Due.is("18: and NEED", x.right(0), 0);
        x.need(36);
        Due.is("18: less than NEED", x.right(0), 5);
    }

    private static void costByKind() {
        int[] cost = {2 * 10 + 3, 2 * 10 + 3, 3 * 10 + 3};
        for (int kind = 0; kind < 3; kind++) {
            CarriageHire x = withHorses(1);
            x.way(0, 1, 10);
            x.job(kind, 0, 1, 100, 7, 1);
            x.job(0, 1, 1, 117, 0, 1);
            x.team(0, 1);
            x.team(1, 1);
            Due.is("19: behind one of kind " + kind, x.strength(1, 0), 500 - cost[kind]);
        }
    }

    private static void strengthGoesThroughTheDay() {
        CarriageHire x = withHorses(2);
        x.way(0, 1, 50);
        x.job(0, 0, 1, 600, 0, 1);
        x.job(0, 1, 0, 300, 10, 1);
        x.job(2, 1, 0, 100, 20, 1);
        for (int n = 0; n < 3; n++) {
            x.team(n, 1);
        }
        Due.is("19: no rest ahead of the first", x.strength(2, 0), 500);
        Due.is("19: 160 less, 130 more", x.strength(1, 0), 470);
        Due.is("19: 105 less, 240 more", x.strength(0, 0), 605);
        x.team(1, 2);
        Due.is("19: not of it", x.strength(1, 0), NONE);
        Due.is("19: the other is", x.strength(1, 1), 500);
        Due.is("19: 160 less, 430 more", x.strength(0, 0), 770);
        x.drop(2);
        Due.is("19: it has nothing ahead", x.strength(0, 0), 500);
    }

    private static void strengthHasItsLimits() {
        CarriageHire x = new CarriageHire();
        x.horse(1, 150, 5, 1000);
        x.horse(1, 150, 5, 20);
        x.way(0, 1, 30);
        x.job(0, 0, 1, 0, 0, 2);
        x.job(0, 1, 0, 100, 0, 2);
        x.job(0, 0, 0, 120, 0, 2);
        for (int n = 0; n < 3; n++) {
            x.team(n, 3);
        }
        Due.is("19: 1000 at most", x.strength(1, 0), 1000);
        Due.is("19: 0 at least, 70 more", x.strength(1, 1), 70);
        Due.is("19: none if the BEGIN is not behind the END", x.strength(2, 0), 940);
        Due.is("19: 60 less, none more", x.strength(2, 1), 10);
    }

    private static void strengthOfNone() {
        CarriageHire x = withHorses(2);
        x.job(0, 0, 0, 0, 0, 1);
        Due.is("19: no TEAM", x.strength(0, 0), NONE);
        x.team(0, 1);
        int[][] bad = {{0, 1}, {0, 2}, {0, -1}, {0, 32}, {0, 16}, {1, 0}, {-1, 0}, {Integer.MAX_VALUE, 0},
            {0, Integer.MIN_VALUE}};
        for (int[] b : bad) {
            Due.is("19: strength(" + b[0] + ", " + b[1] + ")", x.strength(b[0], b[1]), NONE);
            Due.is("20: standIn(" + b[0] + ", " + b[1] + ")", x.standIn(b[0], b[1]), NONE);
        }
        x.drop(0);
        Due.is("19: dropped", x.strength(0, 0), NONE);
    }

    private static void likeBeginsGoByNumber() {
        CarriageHire x = withHorses(1);
        x.job(0, 0, 0, 50, 20, 1);
        x.job(0, 0, 0, 50, 40, 1);
        x.team(0, 1);
        x.team(1, 1);
        Due.is("19: the lesser number first", x.strength(0, 0), 500);
        Due.is("19: then the greater", x.strength(1, 0), 490);
    }

    private static void standInIsTheClosest() {
        CarriageHire x = new CarriageHire();
        x.spans(50, 10);
        x.horse(1, 150, 10, 500);
        x.horse(1, 150, 10, 500);
        x.horse(1, 156, 10, 500);
        x.horse(1, 150, 11, 500);
        x.horse(1, 145, 10, 500);
        x.job(0, 0, 0, 0, 0, 2);
        x.team(0, 0b11);
        Due.is("20: 5 for a PACE, of like ones the least number", x.standIn(0, 0), 3);
        x.lame(3, true);
        Due.is("20: 5 below in HEIGHT", x.standIn(0, 0), 4);
        x.lame(4, true);
        Due.is("20: 6 above in HEIGHT", x.standIn(0, 1), 2);
        x.horse(1, 151, 9, 500);
        x.horse(1, 155, 10, 500);
        Due.is("20: 1 and 5 are no less than 6, but 5 is", x.standIn(0, 1), 6);
        Due.is("17: nothing done", x.of(0, 1), 0b11);
    }

    private static void standInMustBeRight() {
        CarriageHire x = withHorses(1);
        x.horse(2, 150, 5, 500);
        x.horse(1, 150, 5, 9);
        x.horse(1, 150, 5, 500);
        x.horse(1, 150, 5, 500);
        x.horse(1, 155, 7, 500);
        x.horse(1, 150, 5, 500);
        x.job(0, 0, 0, 100, 20, 2);
        x.job(0, 0, 0, 110, 20, 1);
        x.team(0, 0b1000001);
        x.team(1, 0b1000);
        x.lame(4, true);
        Due.is("20: not 1 (COLOUR), 2 (not FRESH), 3 (elsewhere), 4 (LAME)", x.standIn(0, 0), 5);
        x.spans(4, 2);
        Due.is("20: nor 5 (HEIGHT)", x.standIn(0, 0), NONE);
        x.team(1, 0);
        Due.is("20: 3 is free", x.standIn(0, 0), 3);
        x.team(1, 0b1000);
        x.spans(5, 2);
        x.need(500);
        Due.is("20: 500 is enough", x.standIn(0, 0), 5);
    }

    private static void standInMendsOnlyItsOwn() {
        CarriageHire x = withHorses(4);
        x.job(0, 0, 0, 100, 20, 2);
        x.team(0, 0b11);
        x.lame(1, true);
        Due.is("20: the LAME one stays", x.standIn(0, 0), NONE);
        Due.is("20: the LAME one goes", x.standIn(0, 1), 2);
    }

    private static void standInOfNone() {
        CarriageHire x = withHorses(2);
        x.job(0, 0, 0, 100, 20, 2);
        Due.is("20: no TEAM", x.standIn(0, 0), NONE);
        x.team(0, 3);
        Due.is("20: none is left", x.standIn(0, 0), NONE);
        x.horse(1, 150, 5, 500);
        Due.is("20: one is", x.standIn(0, 0), 2);
        Due.is("20: not of the TEAM", x.standIn(0, 2), NONE);
        x.drop(0);
        Due.is("20: dropped", x.standIn(0, 0), NONE);
    }

    /** A day made at random, worked out again in the plainest way. */
    private static final class Plain {
        private final Random random;
        private final CarriageHire hire = new CarriageHire();
        private final int[][] ways = new int[8][8];
        private final int[][] horses;
        private final boolean[] lame;
        private final int[][] jobs;
        private final boolean[] dropped;
        private final int[] teams;
        private final int need;

        Plain(int seed) {
            random = new Random(seed);
            horses = new int[1 + random.nextInt(16)][];
            lame = new boolean[horses.length];
            jobs = new int[1 + random.nextInt(10)][];
            dropped = new boolean[jobs.length];
            teams = new int[jobs.length];
            need = random.nextInt(2) * random.nextInt(200);
        }

        void compare() {
            fill();
            for (int j = 0; j < jobs.length; j++) {
                int due = dropped[j] ? NONE : teams[j] == 0 ? 1 : flaw(j, teams[j]);
                Due.is("18: right(" + j + ")", hire.right(j), due);
                for (int h = 0; h < horses.length; h++) {
                    boolean of = !dropped[j] && (teams[j] >> h & 1) == 1;
                    Due.is("19: strength(" + j + ", " + h + ")", hire.strength(j, h), of ? strength(j, h) : NONE);
                    Due.is("20: standIn(" + j + ", " + h + ")", hire.standIn(j, h), of ? standIn(j, h) : NONE);
                }
            }
        }

        private void fill() {
            hire.need(need);
            for (int a = 0; a < 8; a++) {
                for (int b = a + 1; b < 8; b++) {
                    ways[a][b] = random.nextInt(40);
                    ways[b][a] = ways[a][b];
                    hire.way(a, b, ways[a][b]);
                }
            }
            for (int h = 0; h < horses.length; h++) {
                int[] own = {random.nextInt(8) / 7, 148 + random.nextInt(7), 7 + random.nextInt(4), random.nextInt(400)};
                horses[h] = own;
                hire.horse(own[0], own[1], own[2], own[3]);
                lame[h] = random.nextInt(9) == 0;
                hire.lame(h, lame[h]);
            }
            for (int j = 0; j < jobs.length; j++) {
                int[] own = {random.nextInt(3), random.nextInt(8), random.nextInt(8), random.nextInt(500),
                    random.nextInt(80), 1 << random.nextInt(3)};
                jobs[j] = own;
                hire.job(own[0], own[1], own[2], own[3], own[4], own[5]);
                int bits = 0;
                for (int n = 0; n < own[5]; n++) {
                    bits |= 1 << random.nextInt(horses.length);
                }
                boolean taken = Integer.bitCount(bits) == own[5];
                Due.is("17: team(" + j + ", " + bits + ")", hire.team(j, bits) ? 1 : 0, taken ? 1 : 0);
                teams[j] = taken ? bits : 0;
                dropped[j] = random.nextInt(6) == 0;
                if (dropped[j]) {
                    hire.drop(j);
                }
            }
        }

        private int end(int j) {
            return jobs[j][3] + ways[jobs[j][1]][jobs[j][2]] + jobs[j][4];
        }

        private boolean apart(int a, int b) {
            return end(a) + ways[jobs[a][2]][jobs[b][1]] <= jobs[b][3]
                    || end(b) + ways[jobs[b][2]][jobs[a][1]] <= jobs[a][3];
        }

        private int cost(int j) {
            int way = ways[jobs[j][1]][jobs[j][2]];
            return 2 * way + jobs[j][4] / 2 + (jobs[j][0] == 2 ? way : 0);
        }

        private boolean ahead(int a, int b) {
            return jobs[a][3] < jobs[b][3] || jobs[a][3] == jobs[b][3] && a < b;
        }

        private int strength(int job, int horse) {
            int last = -1;
            for (int j = 0; j < jobs.length; j++) {
                if (!dropped[j] && (teams[j] >> horse & 1) == 1 && ahead(j, job) && (last < 0 || ahead(last, j))) {
                    last = j;
                }
            }
            if (last < 0) {
                return horses[horse][3];
            }
            int left = Math.max(0, strength(last, horse) - cost(last));
            return Math.min(1000, left + Math.max(0, jobs[job][3] - end(last)));
        }

        private int flaw(int job, int team) {
            int found = 0;
            for (int a = 0; a < horses.length; a++) {
                if ((team >> a & 1) == 0) {
                    continue;
                }
                for (int b = 0; b < a; b++) {
                    if ((team >> b & 1) == 1 && (horses[a][0] != horses[b][0]
                            || Math.abs(horses[a][1] - horses[b][1]) > 5 || Math.abs(horses[a][2] - horses[b][2]) > 2)) {
                        found |= 1 << 2;
                    }
                }
                found |= lame[a] ? 1 << 3 : 0;
                for (int j = 0; j < jobs.length; j++) {
                    found |= j != job && !dropped[j] && (teams[j] >> a & 1) == 1 && !apart(j, job) ? 1 << 4 : 0;
                }
                found |= strength(job, a) < cost(job) || strength(job, a) < need ? 1 << 5 : 0;
            }
            return found == 0 ? 0 : Integer.numberOfTrailingZeros(found);
        }

        private int standIn(int job, int horse) {
            int best = NONE;
            int least = Integer.MAX_VALUE;
            for (int h = 0; h < horses.length; h++) {
                int far = Math.abs(horses[h][1] - horses[horse][1]) + 5 * Math.abs(horses[h][2] - horses[horse][2]);
                if ((teams[job] >> h & 1) == 0 && far < least && flaw(job, teams[job] - (1 << horse) + (1 << h)) == 0) {
                    best = h;
                    least = far;
                }
            }
            return best;
        }
    }
}
