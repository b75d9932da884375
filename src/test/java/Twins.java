import java.util.ArrayList;
import java.util.List;
import java.util.function.Consumer;

/**
 * Two objects with the same calls behind them. One of them is then tried with calls that must do nothing; all that can
 * be asked for, and what changes tell, must be the same of both behind that.
 */
final class Twins {
    private static final int CALLS_MAX = 512;
    private static final int CALLS_TO_ASK = 400;

    final CarriageHire tried = new CarriageHire();
    private final CarriageHire spared = new CarriageHire();

    Twins(Consumer<CarriageHire> calls) {
        calls.accept(tried);
        calls.accept(spared);
    }

    /** Twins with some of everything: what a call that should do nothing could spoil is there. */
    static Twins busy() {
        return new Twins(Twins::makeBusy);
    }

    static void makeBusy(CarriageHire x) {
        int[][] horses = {{1, 150, 8, 500}, {1, 152, 8, 400}, {1, 155, 10, 300}, {1, 150, 9, 60}, {2, 150, 8, 500},
            {1, 154, 9, 900}};
        for (int[] h : horses) {
            x.horse(h[0], h[1], h[2], h[3]);
        }
        x.lame(3, true);
        x.spans(6, 3);
        x.need(50);
        x.carriages(3);
        x.way(0, 1, 20);
        x.way(1, 2, 10);
        x.way(0, 2, 25);
        Due.prices(x, "when late>9 price 100+late; price way*3+horses;");
        int[][] jobs = {{0, 0, 1, 100, 30, 2}, {2, 1, 2, 200, 11, 1}, {1, 2, 0, 120, 0, 4}, {0, 2, 2, 400, 5, 1}};
        int[] teams = {0b11, 0b1, 0b100111, 0b10000};
        for (int n = 0; n < jobs.length; n++) {
            int[] j = jobs[n];
            x.job(j[0], j[1], j[2], j[3], j[4], j[5]);
            x.team(n, teams[n]);
        }
        x.drop(3);
        int[][] breaks = {{0, 10, 20, 3}, {0, 25, 40, 5}, {5, 2000, 3000, 5000}, {2, 0, 1, 0}};
        for (int[] b : breaks) {
            x.broken(b[0], b[1], b[2], b[3]);
        }
        x.untell(0, 8);
        Due.prices(x, "price ;");
        Due.type(x, "price 7*late; when kind price 8;");
    }

    /** Asks both for all; to be called last, for it changes them. */
    void areAlike(String sentence) {
        List<String> asked = new ArrayList<>();
        List<Long> due = answers(spared, asked);
        asked.clear();
        List<Long> got = answers(tried, asked);
        for (int n = 0; n < due.size(); n++) {
            Due.is(sentence + ": nothing is done, " + asked.get(n), got.get(n), due.get(n));
        }
        Due.yes("an object is good for " + CALLS_MAX + " calls", due.size() <= CALLS_TO_ASK);
    }

    private static List<Long> answers(CarriageHire x, List<String> asked) {
        Asking asking = new Asking(x, asked);
        asking.horses();
        asking.jobs();
        asking.book();
        asking.changes();
        return asking.answers;
    }

    private static final class Asking {
        private static final int JOBS = 5;
        private static final int HORSES = 7;

        private final CarriageHire x;
        private final List<String> asked;
        private final List<Long> answers = new ArrayList<>();

        Asking(CarriageHire x, List<String> asked) {
            this.x = x;
            this.asked = asked;
        }

        private void note(String call, long answer) {
            asked.add(call);
            answers.add(answer);
        }

        private void note(String call, boolean answer) {
            note(call, answer ? 1 : 0);
        }

        void horses() {
            for (int what = 0; what < 6; what++) {
                note("about(" + what + ")", x.about(what));
            }
            note("fault(0)", x.fault(0));
            note("fault(1)", x.fault(1));
            note("matches(2)", x.matches(2));
            note("matches(4)", x.matches(4));
            for (int a = 0; a < HORSES; a++) {
                for (int b = 0; b < a; b++) {
                    note("match of " + a + " and " + b, x.match(1 << a | 1 << b));
                }
            }
        }

        void jobs() {
            note("empty()", x.empty());
            note("chains()", x.chains());
            for (int job = 0; job < JOBS; job++) {
                note("chain(" + job + ")", x.chain(job));
                note("right(" + job + ")", x.right(job));
                note("price(" + job + ", 9)", x.price(job, 9));
                note("price(" + job + ", 10)", x.price(job, 10));
                for (int what = 0; what < 4; what++) {
                    note("of(" + job + ", " + what + ")", x.of(job, what));
                }
                for (int other = 0; other < JOBS; other++) {
                    note("behind(" + job + ", " + other + ")", x.behind(job, other));
                }
                for (int horse = 0; horse < HORSES; horse++) {
                    note("strength(" + job + ", " + horse + ")", x.strength(job, horse));
                    note("standIn(" + job + ", " + horse + ")", x.standIn(job, horse));
                }
            }
        }

        void book() {
            for (int carriage = 0; carriage < 6; carriage++) {
                for (int k : new int[] {2, 4, 7, 5000}) {
                    note("whole(" + carriage + ", 0, " + k + ")", x.whole(carriage, 0, k));
                    note("whole(" + carriage + ", 2500, " + k + ")", x.whole(carriage, 2500, k));
                    note("free(" + carriage + ", 10, 5, " + k + ")", x.free(carriage, 10, 5, k));
                }
            }
        }

        /** What can't be asked for is told by changes: what is on the TAPE, what PRICES say, what is full or UNTOLD. */
        void changes() {
            note("a HORSE more", x.horse(1, 155, 8, 100));
            note("a JOB more", x.job(1, 0, 1, 300, 2, 1));
            note("its PRICE", x.price(x.about(1) - 1, 10));
            note("an ENTRY more", x.broken(1, 5, 6, 7));
            note("twenty bytes more", x.feed(0x20202020, 0x20202020, 0x20202020, 0x20202020, 0x20202020));
            note("prices()", x.prices());
            note("fault(0)", x.fault(0));
            note("fault(1)", x.fault(1));
            note("one BOOKED then", x.job(1, 0, 1, 310, 2, 1));
            note("its PRICE", x.price(x.about(1) - 1, 10));
            for (int entry = 0; entry < 5; entry++) {
                note("untell(" + entry + ", 5000)", x.untell(entry, 5000));
            }
            for (int job = 0; job < JOBS; job++) {
                note("drop(" + job + ")", x.drop(job));
            }
        }
    }
}
