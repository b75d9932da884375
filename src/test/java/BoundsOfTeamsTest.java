/** Promises 7 and 17 to 20 at their bounds: each sentence about NEED, TEAMS, STRENGTH and STAND-INS that names one. */
public final class BoundsOfTeamsTest {
    private static final int NONE = CarriageHire.NONE;
    private static final int MIN = Integer.MIN_VALUE;
    private static final int MAX = Integer.MAX_VALUE;

    private BoundsOfTeamsTest() {
    }

    public static void main(String[] args) {
        promise7Limits();
        promise7RefusedDoesNothing();
        promise17AsManyAsItNeeds();
        promise17OneIsNone();
        promise17NoSuchJobOrDropped();
        promise17RefusedDoesNothing();
        promise18NoneSuchOrDropped();
        promise18NoTeam();
        promise18DoesNotMatch();
        promise18OneIsLame();
        promise18InAnotherTeam();
        promise18NotFresh();
        promise18TheFirstOfThese();
        promise19NotOfIt();
        promise19CostIsCut();
        promise19NothingAtLeast();
        promise19ThousandAtMost();
        promise19NoneIfNotBehind();
        promise19LikeBeginsByNumber();
        promise19UpToThisOne();
        promise19TenJobs();
        promise20NotOfTheTeam();
        promise20NoneIsLeft();
        promise20LeastSum();
        promise20RightAtTheEdge();
        promise20CountsThisJobAsItsOwn();
        Due.finish();
    }

    private static CarriageHire withHorses(int... strengths) {
        CarriageHire x = new CarriageHire();
        for (int strength : strengths) {
            x.horse(1, 150, 8, strength);
        }
        return x;
    }

    private static void promise7Limits() {
        Limits.are("7, NEED (0 .. 500)", 0, 500, v -> Limits.asInt(new CarriageHire().need(v)), 1, 0);
        CarriageHire x = withHorses(0, 1, 499, 500);
        x.job(0, 0, 0, 0, 0, 1);
        int[][] due = {{0, 0, 0, 0}, {5, 0, 0, 0}, {5, 5, 0, 0}, {5, 5, 5, 0}, {0, 0, 0, 0}};
        int[] needs = {-1, 1, 499, 500, 0};
        for (int n = 0; n < needs.length; n++) {
            // The first one is refused: what is at first is seen.
            Due.is("7, need(" + needs[n] + ")", Limits.asInt(x.need(needs[n])), n == 0 ? 0 : 1);
            for (int horse = 0; horse < 4; horse++) {
                x.team(0, 1 << horse);
                Due.is("7, at least NEED " + needs[n] + ": HORSE " + horse, x.right(0), due[n][horse]);
            }
        }
    }

    private static void promise7RefusedDoesNothing() {
        Twins twins = new Twins(x -> {
            Twins.makeBusy(x);
            x.need(400);
        });
        for (int need : new int[] {-1, 501, -256, 65536, MIN, MAX}) {
            Due.no("7, likewise: " + need, twins.tried.need(need));
        }
        twins.areAlike("7, if it can't be");
    }

    private static void promise17AsManyAsItNeeds() {
        for (int needed : new int[] {1, 2, 4}) {
            CarriageHire x = withHorses(new int[16]);
            x.job(0, 0, 0, 0, 0, needed);
            for (int count = 0; count <= 16; count++) {
                int low = (1 << count) - 1;
                boolean due = count == 0 || count == needed;
                Due.is("17, as many as it needs, " + needed + ": " + count, Limits.asInt(x.team(0, low)), due ? 1 : 0);
                Due.is("17, it has it: " + count, x.of(0, 1), count >= needed ? (1 << needed) - 1 : 0);
            }
            int high = 0xffff & -1 << 16 - needed;
            Due.yes("17, the highest ones", x.team(0, high));
            Due.is("17, the highest ones", x.of(0, 1), high);
            Due.yes("17, 0: none", x.team(0, 0));
            Due.is("17, 0: none", x.of(0, 1), 0);
        }
    }

    private static void promise17OneIsNone() {
        CarriageHire x = withHorses(500, 500, 500);
        x.job(0, 0, 0, 0, 0, 1);
        x.job(0, 0, 0, 0, 0, 2);
        x.team(0, 0b1);
        x.team(1, 0b11);
        Due.yes("17, the last one there is", x.team(0, 0b100));
        for (int bit = 3; bit < 32; bit++) {
            Due.no("17, one is none: " + bit, x.team(0, 1 << bit));
            Due.no("17, one of two is none: " + bit, x.team(1, 1 | 1 << bit));
        }
        Due.is("17, it stays", x.of(0, 1), 0b100);
        Due.is("17, it stays", x.of(1, 1), 0b11);
    }

    private static void promise17NoSuchJobOrDropped() {
        CarriageHire x = withHorses(500, 500);
        Due.no("17, no JOB at all", x.team(0, 0));
        x.job(0, 0, 0, 0, 0, 1);
        x.job(0, 0, 0, 0, 0, 1);
        for (int job : new int[] {-1, 2, 9, 10, 32, MIN, MAX}) {
            Due.no("17, no such JOB: " + job, x.team(job, 1));
            Due.no("17, no such JOB: " + job, x.team(job, 0));
        }
        x.team(1, 1);
        x.drop(1);
        Due.no("17, dropped", x.team(1, 2));
        Due.no("17, dropped, none", x.team(1, 0));
        Due.is("17, the dropped one's stays", x.of(1, 1), 1);
        Due.yes("17, the other one", x.team(0, 2));
    }

    private static void promise17RefusedDoesNothing() {
        int[][] bad = {{0, 0b1}, {0, 0b111}, {0, 0b1000001}, {0, 0b11 | 1 << 31}, {1, 0b11}, {1, 1 << 6}, {1, 1 << 16},
            {2, 0b111}, {2, 0b11111}, {3, 0b1}, {3, 0}, {4, 0b1}, {4, 0}, {-1, 0}, {-1, 1}, {MIN, 1}, {MAX, 1}, {0, -1},
            {1, MIN}};
        Twins twins = Twins.busy();
        for (int[] b : bad) {
            Due.no("17, false: team(" + b[0] + ", " + b[1] + ")", twins.tried.team(b[0], b[1]));
        }
        twins.areAlike("17, false");
    }

    private static void promise18NoneSuchOrDropped() {
        CarriageHire x = withHorses(500);
        x.job(0, 0, 0, 0, 0, 1);
        x.job(0, 0, 0, 0, 0, 1);
        for (int job : new int[] {-1, 2, 9, 10, 32, MIN, MAX}) {
            Due.is("18, none such: " + job, x.right(job), NONE);
        }
        Due.is("18, the first", x.right(0), 1);
        Due.is("18, the last", x.right(1), 1);
        x.team(1, 1);
        Due.is("18, with a TEAM", x.right(1), 0);
        x.drop(1);
        Due.is("18, dropped", x.right(1), NONE);
    }

    private static void promise18NoTeam() {
        CarriageHire x = withHorses(500);
        x.job(0, 0, 0, 0, 0, 1);
        Due.is("18, 1: never had one", x.right(0), 1);
        x.team(0, 1);
        x.team(0, 0);
        Due.is("18, 1: not any more", x.right(0), 1);
    }

    private static void promise18DoesNotMatch() {
        CarriageHire x = new CarriageHire();
        int[][] horses = {{1, 150, 8}, {1, 150, 8}, {1, 150, 8}, {1, 155, 8}, {1, 156, 8}, {1, 150, 10}, {1, 150, 11},
            {2, 150, 8}};
        for (int[] h : horses) {
            x.horse(h[0], h[1], h[2], 500);
        }
        x.job(0, 0, 0, 0, 0, 4);
        int[] due = {0, 2, 0, 2, 2};
        for (int fourth = 3; fourth < 8; fourth++) {
            x.team(0, 0b111 | 1 << fourth);
            Due.is("18, 2: with " + fourth, x.right(0), due[fourth - 3]);
        }
        x.team(0, 0b111 | 1 << 3);
        x.spans(4, 2);
        Due.is("18, 2: SPANS are less now", x.right(0), 2);
        x.job(0, 0, 0, 0, 0, 1);
        x.team(1, 1 << 7);
        Due.is("18, 2: one alone does", x.right(1), 0);
    }

    private static void promise18OneIsLame() {
        CarriageHire x = withHorses(500, 500, 500, 500, 500);
        x.job(0, 0, 0, 0, 0, 4);
        x.team(0, 0b1111);
        for (int horse = 0; horse < 5; horse++) {
            x.lame(horse, true);
            Due.is("18, 3: one is LAME, " + horse, x.right(0), horse < 4 ? 3 : 0);
            x.lame(horse, false);
            Due.is("18, 3: none is", x.right(0), 0);
        }
    }

    private static void promise18InAnotherTeam() {
        CarriageHire x = withHorses(500, 500, 500);
        x.way(1, 2, 10);
        x.way(2, 3, 7);
        x.job(0, 1, 2, 100, 20, 2);
        x.job(0, 3, 3, 137, 0, 2);
        x.job(0, 3, 3, 136, 0, 2);
        x.team(0, 0b11);
        x.team(1, 0b11);
        Due.is("18, 4: just behind", x.right(0), 0);
        Due.is("18, 4: just ahead", x.right(1), 0);
        x.team(1, 0);
        x.team(2, 0b110);
        Due.is("18, 4: a minute short", x.right(0), 4);
        Due.is("18, 4: a minute short", x.right(2), 4);
        x.team(0, 0b101);
        Due.is("18, 4: by another HORSE", x.right(0), 4);
        x.drop(2);
        Due.is("18, 4: the other one is dropped", x.right(0), 0);
        CarriageHire y = withHorses(500);
        y.job(0, 0, 0, 100, 0, 1);
        y.job(0, 0, 0, 100, 0, 1);
        y.team(0, 1);
        y.team(1, 1);
        Due.is("18, 4: at one minute, but they take none", y.right(0), 0);
        Due.is("18, 4: at one minute, but they take none", y.right(1), 0);
    }

    private static void promise18NotFresh() {
        CarriageHire x = withHorses(29, 30, 31);
        x.way(0, 1, 10);
        x.job(0, 0, 1, 0, 21, 1);
        int[] due = {5, 0, 0};
        for (int horse = 0; horse < 3; horse++) {
            x.team(0, 1 << horse);
            Due.is("18, 5: at least the cost, 30", x.right(0), due[horse]);
        }
        x.need(31);
        Due.is("18, 5: at least NEED, too", x.right(0), 0);
        x.team(0, 0b10);
        Due.is("18, 5: the cost, but not NEED", x.right(0), 5);
        x.need(1);
        x.team(0, 0b1);
        Due.is("18, 5: NEED, but not the cost", x.right(0), 5);
        CarriageHire y = withHorses(1000, 1000);
        y.way(0, 1, 300);
        y.job(2, 0, 1, 0, 200, 1);
        y.job(2, 0, 1, 0, 202, 1);
        y.team(0, 0b1);
        y.team(1, 0b10);
        Due.is("18, 5: 1000 for a cost of 1000", y.right(0), 0);
        Due.is("18, 5: 1000 for a cost of 1001", y.right(1), 5);
    }

    private static void promise18TheFirstOfThese() {
        CarriageHire x = new CarriageHire();
        x.horse(1, 150, 8, 0);
        x.horse(2, 150, 8, 0);
        x.horse(1, 150, 8, 0);
        x.job(0, 0, 0, 100, 20, 2);
        x.job(0, 0, 0, 100, 20, 2);
        x.lame(0, true);
        x.team(1, 0b101);
        Due.is("18, 1 is ahead", x.right(0), 1);
        x.team(0, 0b11);
        Due.is("18, 2 is ahead of 3, 4 and 5", x.right(0), 2);
        x.team(0, 0b101);
        Due.is("18, 3 is ahead of 4 and 5", x.right(0), 3);
        x.lame(0, false);
        Due.is("18, 4 is ahead of 5", x.right(0), 4);
        x.team(1, 0);
        Due.is("18, 5 is the last", x.right(0), 5);
    }

    private static void promise19NotOfIt() {
        CarriageHire x = withHorses(500, 600);
        x.job(0, 0, 0, 0, 0, 1);
        x.job(0, 0, 0, 0, 0, 1);
        Due.is("19, no TEAM", x.strength(0, 0), NONE);
        x.team(0, 0b1);
        x.team(1, 0b10);
        Due.is("19, of it", x.strength(0, 0), 500);
        Due.is("19, of it", x.strength(1, 1), 600);
        // Bits would begin anew at 32.
        for (int horse : new int[] {-1, 1, 2, 15, 16, 31, 32, -32, MIN, MAX}) {
            Due.is("19, not of it: " + horse, x.strength(0, horse), NONE);
        }
        for (int job : new int[] {-1, 1, 2, 9, 10, 32, MIN, MAX}) {
            Due.is("19, not of it: JOB " + job, x.strength(job, 0), NONE);
        }
        x.drop(0);
        Due.is("19, dropped", x.strength(0, 0), NONE);
    }

    private static void promise19CostIsCut() {
        int[] waits = {0, 1, 2, 3, 299, 300};
        int[] costs = {0, 0, 1, 1, 149, 150};
        for (int kind = 0; kind < 3; kind++) {
            for (int n = 0; n < waits.length; n++) {
                CarriageHire x = withHorses(1000);
                x.way(0, 1, 7);
                x.job(kind, 0, 1, 0, waits[n], 1);
                x.job(0, 1, 1, 7 + waits[n], 0, 1);
                x.team(0, 1);
                x.team(1, 1);
                int due = 1000 - costs[n] - 7 * (kind == 2 ? 3 : 2);
                Due.is("19, WAIT / 2 (cut): " + waits[n] + ", kind " + kind, x.strength(1, 0), due);
            }
        }
    }

    private static void promise19NothingAtLeast() {
        for (int strength = 9; strength <= 11; strength++) {
            CarriageHire x = withHorses(strength);
            x.job(0, 0, 0, 0, 20, 1);
            x.job(0, 0, 0, 20, 0, 1);
            x.job(0, 0, 0, 23, 0, 1);
            for (int n = 0; n < 3; n++) {
                x.team(n, 1);
            }
            int due = Math.max(strength - 10, 0);
            Due.is("19, 0 at least, of " + strength, x.strength(1, 0), due);
            Due.is("19, 3 more than that", x.strength(2, 0), due + 3);
        }
        CarriageHire y = withHorses(1000);
        y.way(0, 1, 300);
        y.job(2, 0, 1, 0, 300, 1);
        y.job(0, 1, 1, 600, 0, 1);
        y.job(0, 1, 1, 601, 0, 1);
        for (int n = 0; n < 3; n++) {
            y.team(n, 1);
        }
        Due.is("19, 0 at least, by the greatest cost", y.strength(1, 0), 0);
        Due.is("19, 1 more than that", y.strength(2, 0), 1);
    }

    private static void promise19ThousandAtMost() {
        int[] begins = {9, 10, 11, 1400};
        for (int begin : begins) {
            CarriageHire x = withHorses(990);
            x.job(0, 0, 0, 0, 0, 1);
            x.job(0, 0, 0, begin, 20, 1);
            x.job(0, 0, 0, 1400, 0, 1);
            for (int n = 0; n < 3; n++) {
                x.team(n, 1);
            }
            int due = Math.min(990 + begin, 1000);
            Due.is("19, 1000 at most, at " + begin, x.strength(1, 0), due);
            int then = begin == 1400 ? due - 10 : Math.min(due - 10 + 1400 - begin - 20, 1000);
            Due.is("19, less from 1000 on", x.strength(2, 0), then);
        }
        CarriageHire y = withHorses(1000);
        y.job(0, 0, 0, 0, 20, 1);
        y.job(0, 0, 0, 25, 0, 1);
        y.team(0, 1);
        y.team(1, 1);
        Due.is("19, 1000 at first", y.strength(0, 0), 1000);
        Due.is("19, 10 less, 5 more", y.strength(1, 0), 995);
    }

    private static void promise19NoneIfNotBehind() {
        int[] begins = {0, 59, 60, 61, 62};
        int[] due = {470, 470, 470, 471, 472};
        for (int n = 0; n < begins.length; n++) {
            CarriageHire x = withHorses(500);
            x.way(0, 1, 5);
            x.job(0, 0, 0, 0, 60, 1);
            x.job(0, 0, 0, begins[n], 0, 1);
            x.job(0, 1, 1, begins[n], 0, 1);
            x.team(0, 1);
            x.team(1, 1);
            Due.is("19, none if it is not behind: at " + begins[n], x.strength(1, 0), due[n]);
            x.team(1, 0);
            x.team(2, 1);
            Due.is("19, whatever the WAY to it: at " + begins[n], x.strength(2, 0), due[n]);
        }
        CarriageHire y = withHorses(500);
        y.job(0, 0, 0, 1400, 0, 1);
        y.team(0, 1);
        Due.is("19, none ahead of the first", y.strength(0, 0), 500);
    }

    private static void promise19LikeBeginsByNumber() {
        CarriageHire x = withHorses(500);
        x.job(0, 0, 0, 50, 20, 1);
        x.job(0, 0, 0, 50, 40, 1);
        x.job(0, 0, 0, 49, 60, 1);
        x.job(0, 0, 0, 50, 80, 1);
        for (int n = 0; n < 4; n++) {
            x.team(n, 1);
        }
        int[] due = {470, 460, 500, 440};
        for (int n = 0; n < 4; n++) {
            Due.is("19, of like ones by number: " + n, x.strength(n, 0), due[n]);
        }
    }

    private static void promise19UpToThisOne() {
        CarriageHire x = withHorses(500, 500);
        for (int n = 0; n < 4; n++) {
            x.job(0, 0, 0, 100 * (3 - n), 40, 1);
            x.team(n, 1);
        }
        Due.is("19, nothing ahead of the first", x.strength(3, 0), 500);
        Due.is("19, 20 less, 60 more", x.strength(2, 0), 540);
        Due.is("19, twice", x.strength(1, 0), 580);
        Due.is("19, three times", x.strength(0, 0), 620);
        x.team(2, 0b10);
        Due.is("19, 20 less, 160 more", x.strength(1, 0), 640);
        x.drop(3);
        Due.is("19, nothing ahead of it any more", x.strength(1, 0), 500);
    }

    private static void promise19TenJobs() {
        CarriageHire x = withHorses(1000);
        for (int n = 0; n < 10; n++) {
            x.job(0, 0, 0, 0, 200, 1);
            x.team(n, 1);
        }
        for (int n = 0; n < 10; n++) {
            Due.is("19, ten at once: " + n, x.strength(n, 0), 1000 - 100 * n);
        }
    }

    private static void promise20NotOfTheTeam() {
        CarriageHire x = withHorses(500, 500, 500);
        x.job(0, 0, 0, 0, 0, 1);
        x.job(0, 0, 0, 0, 0, 1);
        Due.is("20, no TEAM", x.standIn(0, 0), NONE);
        x.team(0, 0b10);
        Due.is("20, of the TEAM", x.standIn(0, 1), 0);
        for (int horse : new int[] {-1, 0, 2, 3, 16, 33, -31, MIN, MAX}) {
            Due.is("20, not of the TEAM: " + horse, x.standIn(0, horse), NONE);
        }
        for (int job : new int[] {-1, 1, 2, 10, 32, MIN, MAX}) {
            Due.is("20, not of the TEAM: JOB " + job, x.standIn(job, 1), NONE);
        }
        x.drop(0);
        Due.is("20, dropped", x.standIn(0, 1), NONE);
    }

    private static void promise20NoneIsLeft() {
        CarriageHire x = withHorses(500, 500, 500, 500);
        x.job(0, 0, 0, 0, 0, 4);
        x.team(0, 0b1111);
        Due.is("20, all are in it", x.standIn(0, 3), NONE);
        x.horse(1, 150, 8, 500);
        for (int horse = 0; horse < 4; horse++) {
            Due.is("20, one is not", x.standIn(0, horse), 4);
        }
        for (int n = 5; n < 16; n++) {
            x.horse(1, 151, 8, 500);
        }
        x.lame(4, true);
        Due.is("20, of 16", x.standIn(0, 0), 5);
        for (int n = 5; n < 15; n++) {
            x.lame(n, true);
        }
        Due.is("20, the last of 16", x.standIn(0, 0), 15);
        x.lame(15, true);
        Due.is("20, none of 16", x.standIn(0, 0), NONE);
    }

    private static void promise20LeastSum() {
        CarriageHire x = new CarriageHire();
        x.spans(50, 10);
        x.horse(1, 150, 10, 500);
        int[][] others = {{156, 10}, {150, 11}, {150, 9}, {155, 10}, {145, 10}, {154, 10}, {149, 10}, {150, 10}};
        int[] due = {1, 2, 2, 2, 2, 6, 7, 8};
        x.job(0, 0, 0, 0, 0, 1);
        x.team(0, 1);
        for (int n = 0; n < others.length; n++) {
            x.horse(1, others[n][0], others[n][1], 500);
            Due.is("20, the least sum, of like ones the least number: " + (n + 1), x.standIn(0, 0), due[n]);
        }
        CarriageHire y = new CarriageHire();
        y.horse(0, 100, 1, 500);
        y.horse(7, 200, 20, 500);
        y.horse(7, 200, 20, 500);
        y.job(0, 0, 0, 0, 0, 1);
        y.team(0, 1);
        Due.is("20, as far as can be, but alone", y.standIn(0, 0), 1);
    }

    private static void promise20RightAtTheEdge() {
        CarriageHire x = withHorses(500, 500, 9, 10);
        x.horse(1, 155, 10, 10);
        x.horse(1, 156, 8, 10);
        x.job(0, 0, 0, 100, 20, 2);
        x.job(0, 0, 0, 120, 0, 1);
        x.team(0, 0b11);
        x.team(1, 0b1000);
        Due.is("20, 9 is not FRESH, 10 is, and is free at 120", x.standIn(0, 0), 3);
        x.job(0, 0, 0, 119, 0, 1);
        x.team(2, 0b1000);
        Due.is("20, not free at 119; 5 and 2 are the SPANS", x.standIn(0, 0), 4);
        x.spans(4, 2);
        Due.is("20, 5 is more than 4", x.standIn(0, 0), NONE);
        x.spans(6, 1);
        Due.is("20, 2 is more than 1, but 6 is just so", x.standIn(0, 0), 5);
        x.need(10);
        Due.is("20, NEED 10", x.standIn(0, 0), 5);
        x.need(11);
        Due.is("20, NEED 11", x.standIn(0, 0), NONE);
        Due.is("20, the TEAM stays", x.of(0, 1), 0b11);
    }

    private static void promise20CountsThisJobAsItsOwn() {
        CarriageHire x = withHorses(500, 30);
        x.job(0, 0, 0, 0, 60, 1);
        x.job(0, 0, 0, 69, 20, 1);
        x.team(0, 0b10);
        x.team(1, 0b1);
        Due.is("20, 30 less, 9 more: a minute short", x.standIn(1, 0), NONE);
        CarriageHire y = withHorses(500, 30);
        y.job(0, 0, 0, 0, 60, 1);
        y.job(0, 0, 0, 70, 20, 1);
        y.team(0, 0b10);
        y.team(1, 0b1);
        Due.is("20, 30 less, 10 more", y.standIn(1, 0), 1);
        Due.is("20, what comes later is not looked at", y.standIn(0, 1), 0);
    }
}
