import java.util.Random;

/** What the class is for: the document's first sentence, piece by piece. */
public final class PurposeTest {
    private static final int DRAWN_RUNS = 1500;
    /** Each of them is an act and a look at latest, so that an object has fewer than 512 calls. */
    private static final int DRAWN_CALLS = 250;
    /** The rest of a batch, a whole batch of writing, and the batch that must begin with it. */
    private static final int MOST_BEFORE_READ = 3 + 4 + 1;
    /** The rest of a batch, two whole batches of reading, and the batch that must begin with it. */
    private static final int MOST_BEFORE_WRITE = 3 + 8 + 1;
    private static final int SHORT_CALLS = 6;
    private static final int KINDS = 8;

    private static final Check check = new Check();

    public static void main(String[] args) {
        sweepsAreSorted();
        aFloodOfReadsDoesNotKeepAWrite();
        aFloodAheadDoesNotKeepWhatLiesBehind(0);
        aFloodAheadDoesNotKeepWhatLiesBehind(1);
        for (int seed = 0; seed < DRAWN_RUNS && !check.hasWrong(); seed++) {
            noneWaitsLong(seed);
        }
        for (int run = 0; run < Math.pow(KINDS, SHORT_CALLS) && !check.hasWrong(); run++) {
            everyShortRun(run);
        }
        check.end();
    }

    /** "sorted sweeps in batches": within a batch the head never goes back, nor does the way change. */
    private static void sweepsAreSorted() {
        for (int seed = 0; seed < 300; seed++) {
            Random random = new Random(seed);
            DeadlineElevator x = new DeadlineElevator();
            int head = 0;
            int batch = 0;
            for (int i = 0; i < 100; i++) {
                // Even sectors, one each: nothing joins, and the start is the sector before the head.
                come(x, random.nextInt(2), 2 * random.nextInt(32), 1, i);
                if (i >= 10) {
                    x.dispatch();
                    int count = x.batch() % 5;
                    if (count != 1) {
                        check.due("the way within a batch", (x.batch() - 1) / 5, (batch - 1) / 5);
                        check.due("the head goes up", x.head() > head, true);
                    }
                    head = x.head();
                    batch = x.batch();
                }
            }
        }
    }

    private static int come(DeadlineElevator x, int way, int s, int n, int v) {
        return way == 0 ? x.read(s, n) : x.write(s, n, v);
    }

    /** "none waits long": there are always reads ahead, but the ninth dispatched is the write. */
    private static void aFloodOfReadsDoesNotKeepAWrite() {
        DeadlineElevator x = new DeadlineElevator();
        int write = x.write(0, 1, 7);
        for (int i = 1; i <= 9; i++) {
            x.read(4 * i, 1);
            x.read(4 * i + 2, 1);
            check.due("the write before dispatch no. " + i, x.state(write), 1);
            x.dispatch();
        }
        check.due("the write after 9", x.state(write), 2);
        check.due("its sector", x.sector(0), 7);
    }

    /** "none waits long beyond its deadline": the first batch that begins then begins with it. */
    private static void aFloodAheadDoesNotKeepWhatLiesBehind(int way) {
        DeadlineElevator x = new DeadlineElevator();
        x.expire(20, 20);
        come(x, way, 8, 1, 0);
        x.dispatch();
        int behind = come(x, way, 0, 1, 0);
        for (int i = 1; i <= 12; i++) {
            come(x, way, 8 + 4 * i, 1, 0);
            x.tick(4);
            check.due("now before dispatch no. " + i, x.now(), 4 * i);
            x.dispatch();
            check.due("after dispatch no. " + i, x.state(behind), i < 8 ? 1 : 2);
        }
    }

    /** "none waits long beyond its deadline": one that is ready and the most late of its way. */
    private static void noneWaitsLong(int seed) {
        Random random = new Random(seed);
        DeadlineElevator x = new DeadlineElevator();
        PlainModel model = new PlainModel();
        int span = 8 + random.nextInt(57);
        int[] late = {DeadlineElevator.NONE, DeadlineElevator.NONE};
        int[] since = new int[2];
        for (int i = 0; i < DRAWN_CALLS; i++) {
            int kind = random.nextInt(10);
            if (kind < 5) {
                int s = random.nextInt(span);
                int n = 1 + random.nextInt(3);
                int way = random.nextInt(2);
                check.due("a part", come(x, way, s, n, i), model.come(way, s, n, i));
            } else if (kind < 7) {
                int ms = random.nextInt(60);
                check.due("tick", x.tick(ms), model.tick(ms));
            } else {
                findLate(model, late, since);
                x.dispatch();
                model.dispatch();
                countFor(x.latest(), late, since);
            }
        }
    }

    /** For each way the number of the request that comes next when its way begins a batch. */
    private static void findLate(PlainModel model, int[] late, int[] since) {
        for (int way = 0; way <= 1; way++) {
            PlainModel.Request first = null;
            for (PlainModel.Request each : model.waiting) {
                if (each.way() == way && (first == null || each.deadline < first.deadline)) {
                    first = each;
                }
            }
            boolean isLate = first != null && first.deadline <= model.now && model.isReady(first);
            if (late[way] == DeadlineElevator.NONE && isLate) {
                late[way] = first.number();
                since[way] = 0;
            }
        }
    }

    private static void countFor(int dispatched, int[] late, int[] since) {
        for (int way = 0; way <= 1; way++) {
            if (late[way] != DeadlineElevator.NONE) {
                since[way]++;
                int most = way == 0 ? MOST_BEFORE_READ : MOST_BEFORE_WRITE;
                check.due("a late one of way " + way + " after " + since[way], since[way] <= most, true);
            }
            if (late[way] == dispatched) {
                late[way] = DeadlineElevator.NONE;
            }
        }
    }

    /** "what would have been seen if all had been done in the order in which they came": all short runs. */
    private static void everyShortRun(int run) {
        DeadlineElevator x = new DeadlineElevator();
        PlainModel model = new PlainModel();
        int[] inOrder = new int[64];
        int[][] seen = new int[SHORT_CALLS][];
        int left = run;
        for (int i = 0; i < SHORT_CALLS; i++) {
            switch (left % KINDS) {
                case 0 -> dispatchBoth(run, x, model);
                case 1 -> due(run, "barrier", x.barrier(), ++model.barriers);
                case 2 -> due(run, "tick", x.tick(50) ? 1 : 0, model.tick(50) ? 1 : 0);
                case 3 -> writeBoth(run, x, model, inOrder, 10, 100 * i);
                case 4 -> writeBoth(run, x, model, inOrder, 12, 100 * i);
                case 5 -> readBoth(run, x, model, inOrder, 11, seen);
                case 6 -> readBoth(run, x, model, inOrder, 13, seen);
                default -> readBoth(run, x, model, inOrder, 9, seen);
            }
            left /= KINDS;
        }
        for (int i = 0; i < SHORT_CALLS; i++) {
            dispatchBoth(run, x, model);
        }
        inOrderOfComing(run, x, inOrder, seen);
    }

    private static void due(int run, String call, int got, int want) {
        if (got != want) {
            System.out.println("run " + Integer.toOctalString(run) + ", read from the right, the wrong call:");
        }
        check.due(call, got, want);
    }

    private static void dispatchBoth(int run, DeadlineElevator x, PlainModel model) {
        due(run, "ready(0)", x.ready(0), model.ready(0));
        due(run, "ready(1)", x.ready(1), model.ready(1));
        due(run, "dispatch", x.dispatch(), model.dispatch());
        due(run, "latest", x.latest(), model.latest);
        due(run, "batch", x.batch(), model.batch());
    }

    private static void writeBoth(int run, DeadlineElevator x, PlainModel model, int[] inOrder, int s, int v) {
        due(run, "write", x.write(s, 2, v), model.come(1, s, 2, v));
        inOrder[s] = v;
        inOrder[s + 1] = v + 1;
    }

    private static void readBoth(int run, DeadlineElevator x, PlainModel model, int[] inOrder, int s, int[][] seen) {
        int part = x.read(s, 2);
        due(run, "read", part, model.come(0, s, 2, 0));
        seen[part] = new int[] {inOrder[s], inOrder[s + 1]};
    }

    private static void inOrderOfComing(int run, DeadlineElevator x, int[] inOrder, int[][] seen) {
        for (int s = 9; s <= 14; s++) {
            due(run, "sector(" + s + ")", x.sector(s), inOrder[s]);
        }
        for (int part = 0; part < SHORT_CALLS; part++) {
            if (seen[part] != null) {
                due(run, "value(" + part + ", 0)", x.value(part, 0), seen[part][0]);
                due(run, "value(" + part + ", 1)", x.value(part, 1), seen[part][1]);
            }
        }
    }
}
