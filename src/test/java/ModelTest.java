import java.util.Arrays;
import java.util.Random;

/**
 * All promises: runs of 512 calls, drawn from fixed seeds, answer what the plain model answers, and
 * every reader sees what would have been seen if all had been done in the order in which they came.
 */
public final class ModelTest {
    private static final int RUNS = 12000;
    /** 400 calls of all kinds, 24 that empty the queue, and looks at what was read and written. */
    private static final int MIXED_CALLS = 400;
    private static final int MOST_WAITING = 24;
    private static final int LAST_LOOKS = 88;
    private static final int[] STRANGE =
            {-1, -2, 64, 65, 200, 10001, 100001, Integer.MIN_VALUE, Integer.MAX_VALUE};

    private static final Check check = new Check();

    private final int seed;
    private final Random random;
    private final DeadlineElevator x = new DeadlineElevator();
    private final PlainModel model = new PlainModel();
    private final int[] inOrder = new int[64];
    private final int[][] seenInOrder = new int[200][];
    /** What this run likes: how many sectors it uses, and of 100 calls how many are of which kind. */
    private final int span;
    private final int longest;
    private final int looking;
    private final int coming;
    private final int dispatching;
    private final int barriers;
    private final int writing;

    private ModelTest(int seed) {
        this.seed = seed;
        random = new Random(seed);
        span = 4 + random.nextInt(61);
        longest = 1 + random.nextInt(8);
        looking = random.nextInt(60);
        coming = 30 + random.nextInt(40);
        dispatching = 10 + random.nextInt(30);
        barriers = random.nextInt(4);
        writing = random.nextInt(101);
    }

    public static void main(String[] args) {
        for (int seed = 0; seed < RUNS && !check.hasWrong(); seed++) {
            new ModelTest(seed).run();
        }
        check.end();
    }

    private void run() {
        for (int i = 0; i < MIXED_CALLS && !check.hasWrong(); i++) {
            if (random.nextInt(100) < looking) {
                look();
            } else {
                act(i == 0 ? 99 : random.nextInt(100));
            }
        }
        for (int i = 0; i < MOST_WAITING; i++) {
            dispatch();
        }
        for (int i = 0; i < LAST_LOOKS; i++) {
            lookAtTheOrder();
        }
    }

    private void due(String call, int got, int want) {
        if (got != want) {
            System.out.println("run " + seed + ", the wrong call:");
        }
        check.due(call, got, want);
    }

    private int some(int below) {
        return random.nextInt(40) == 0 ? STRANGE[random.nextInt(STRANGE.length)] : random.nextInt(below);
    }

    private void act(int kind) {
        if (kind < coming) {
            come();
        } else if (kind < coming + dispatching) {
            dispatch();
        } else if (kind < coming + dispatching + barriers) {
            model.barriers++;
            due("barrier()", x.barrier(), model.barriers);
        } else if (kind == 99) {
            expire();
        } else {
            int ms = some(random.nextInt(5) == 0 ? 700 : 40);
            due("tick(" + ms + ")", x.tick(ms) ? 1 : 0, model.tick(ms) ? 1 : 0);
        }
    }

    private void come() {
        int s = some(span);
        int n = random.nextInt(60) == 0 ? some(11) : 1 + random.nextInt(longest);
        if (random.nextInt(100) < writing) {
            int v = random.nextInt();
            int part = x.write(s, n, v);
            due("write(" + s + ", " + n + ", " + v + ")", part, model.come(1, s, n, v));
            for (int i = 0; part >= 0 && i < n; i++) {
                inOrder[s + i] = v + i;
            }
        } else {
            int part = x.read(s, n);
            due("read(" + s + ", " + n + ")", part, model.come(0, s, n, 0));
            if (part >= 0) {
                seenInOrder[part] = Arrays.copyOfRange(inOrder, s, s + n);
            }
        }
    }

    private void dispatch() {
        due("dispatch()", x.dispatch(), model.dispatch());
    }

    private void expire() {
        int first = some(random.nextBoolean() ? 60 : 10002);
        int second = some(random.nextBoolean() ? 60 : 10002);
        due("expire(" + first + ", " + second + ")", x.expire(first, second) ? 1 : 0,
                model.expire(first, second) ? 1 : 0);
    }

    private void look() {
        int part = some(model.parts.size() + 1);
        int small = some(9);
        switch (random.nextInt(11)) {
            case 0 -> due("head()", x.head(), model.head);
            case 1 -> due("now()", x.now(), model.now);
            case 2 -> due("batch()", x.batch(), model.batch());
            case 3 -> due("latest()", x.latest(), model.latest);
            case 4 -> due("waiting(" + small % 3 + ")", x.waiting(small % 3), model.waitingOf(small % 3));
            case 5 -> due("ready(" + small % 3 + ")", x.ready(small % 3), model.ready(small % 3));
            case 6 -> due("sector(" + small * 7 + ")", x.sector(small * 7), model.sector(small * 7));
            case 7 -> due("state(" + part + ")", x.state(part), model.state(part));
            case 8 -> due("requestOf(" + part + ")", x.requestOf(part), model.requestOf(part));
            case 9 -> due("about(" + part + ", " + small + ")", x.about(part, small), model.about(part, small));
            default -> due("value(" + part + ", " + small + ")", x.value(part, small), model.value(part, small));
        }
    }

    private void lookAtTheOrder() {
        int part = random.nextInt(model.parts.size() + 1);
        if (part < model.parts.size() && seenInOrder[part] != null) {
            int i = random.nextInt(seenInOrder[part].length);
            due("value(" + part + ", " + i + ") in order", x.value(part, i), seenInOrder[part][i]);
        } else {
            int sector = random.nextInt(64);
            due("sector(" + sector + ") in order", x.sector(sector), inOrder[sector]);
        }
    }
}
