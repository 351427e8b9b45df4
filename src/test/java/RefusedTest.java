import java.util.function.Consumer;
import java.util.function.ToIntFunction;

/**
 * "A call that is refused changes nothing.", and a call that only looks does not either: of two
 * objects with the same calls one has refused calls besides, and both answer alike from then on.
 * No object has more than 512 calls.
 */
public final class RefusedTest {
    private static final int NONE = DeadlineElevator.NONE;
    private static final int FULL = DeadlineElevator.FULL;
    private static final int[] STRANGE = {Integer.MIN_VALUE, -1, 0, 1, 7, 8, 63, 64, 200, Integer.MAX_VALUE};

    private static final Check check = new Check();

    public static void main(String[] args) {
        aWrongReadChangesNothing();
        aWrongWriteChangesNothing();
        aReadWithoutRoomChangesNothing();
        aWriteWithoutRoomChangesNothing();
        aPartTooManyChangesNothing();
        aWrongExpireChangesNothing();
        anExpireWhileOneWaitsChangesNothing();
        aWrongTickChangesNothing();
        aDispatchOfNothingChangesNothing();
        lookingChangesNothing();
        wrongLooksChangeNothing();
        strangeNumbersThrowNothing();
        check.end();
    }

    /** A few parts wait, of both ways, and the batch has begun. */
    private static void someWait(DeadlineElevator x) {
        x.write(20, 4, 100);
        x.read(10, 2);
        x.dispatch();
        x.tick(30);
        x.read(40, 2);
        x.write(24, 4, 200);
        x.read(21, 1);
        x.barrier();
        x.write(0, 2, 300);
    }

    private static void noneWaits(DeadlineElevator x) {
        someWait(x);
        for (int i = 0; i < 5; i++) {
            x.dispatch();
        }
    }

    private static void twentyFourWait(DeadlineElevator x) {
        for (int i = 0; i < 12; i++) {
            x.read(10, 2);
            x.write(40, 2, i);
        }
    }

    private static void twoHundredCame(DeadlineElevator x) {
        for (int i = 0; i < 200; i++) {
            x.write(i % 4, 1, i);
            if (i % 4 == 3 && i < 197) {
                x.dispatch();
            }
        }
    }

    private static void refused(String name, Consumer<DeadlineElevator> before, int want,
            ToIntFunction<DeadlineElevator> call) {
        DeadlineElevator plain = new DeadlineElevator();
        DeadlineElevator asked = new DeadlineElevator();
        before.accept(plain);
        before.accept(asked);
        for (int i = 0; i < 3; i++) {
            check.due(name, call.applyAsInt(asked), want);
        }
        String seen = look(plain);
        check.due(name + " changed something: " + seen, seen.equals(look(asked)), true);
        String done = goOn(plain);
        check.due(name + " changed what follows: " + done, done.equals(goOn(asked)), true);
    }

    /** 11 calls and 8 for each of the first six parts, 3 for each of the last. */
    private static String look(DeadlineElevator x) {
        StringBuilder text = new StringBuilder();
        for (int part = 0; part < 6; part++) {
            add(text, x.state(part), x.requestOf(part), x.value(part, 0));
            for (int what = 0; what <= 4; what++) {
                add(text, x.about(part, what));
            }
        }
        for (int part = 196; part <= 200; part++) {
            add(text, x.state(part), x.requestOf(part), x.about(part, 1));
        }
        add(text, x.waiting(0), x.waiting(1), x.ready(0), x.ready(1));
        add(text, x.latest(), x.head(), x.now(), x.batch());
        add(text, x.sector(0), x.sector(20), x.sector(40));
        return text.toString();
    }

    /** At most 24 dispatches, then parts that show the expiries, the group and the next number. */
    private static String goOn(DeadlineElevator x) {
        StringBuilder text = new StringBuilder();
        for (int i = 0; i < 24; i++) {
            add(text, x.dispatch(), x.latest(), x.batch());
        }
        for (int s = 0; s < 50; s++) {
            add(text, x.sector(s));
        }
        int read = x.read(30, 1);
        int write = x.write(50, 1, 1);
        add(text, read, write, x.now(), x.head());
        for (int what = 0; what <= 4; what++) {
            add(text, x.about(read, what), x.about(write, what));
        }
        add(text, x.barrier());
        return text.toString();
    }

    private static void add(StringBuilder text, int... answers) {
        for (int answer : answers) {
            text.append(answer).append(' ');
        }
    }

    private static void aWrongReadChangesNothing() {
        refused("read(24, 0)", RefusedTest::someWait, NONE, x -> x.read(24, 0));
        refused("read(24, 9)", RefusedTest::someWait, NONE, x -> x.read(24, 9));
        refused("read(-1, 2)", RefusedTest::someWait, NONE, x -> x.read(-1, 2));
        refused("read(63, 2)", RefusedTest::someWait, NONE, x -> x.read(63, 2));
        refused("read(MAX, 8)", RefusedTest::noneWaits, NONE, x -> x.read(Integer.MAX_VALUE, 8));
    }

    private static void aWrongWriteChangesNothing() {
        refused("write(28, 0, 7)", RefusedTest::someWait, NONE, x -> x.write(28, 0, 7));
        refused("write(28, 9, 7)", RefusedTest::someWait, NONE, x -> x.write(28, 9, 7));
        refused("write(-1, 2, 7)", RefusedTest::someWait, NONE, x -> x.write(-1, 2, 7));
        refused("write(63, 2, 7)", RefusedTest::someWait, NONE, x -> x.write(63, 2, 7));
        refused("write(MAX, 8, 7)", RefusedTest::noneWaits, NONE, x -> x.write(Integer.MAX_VALUE, 8, 7));
    }

    private static void aReadWithoutRoomChangesNothing() {
        refused("read(30, 1) while 24 wait", RefusedTest::twentyFourWait, FULL, x -> x.read(30, 1));
        refused("read(12, 1) beside 24", RefusedTest::twentyFourWait, FULL, x -> x.read(12, 1));
        refused("read(9, 1) beside 24", RefusedTest::twentyFourWait, FULL, x -> x.read(9, 1));
        refused("read(0, 9) while 24 wait", RefusedTest::twentyFourWait, NONE, x -> x.read(0, 9));
    }

    private static void aWriteWithoutRoomChangesNothing() {
        refused("write(30, 1, 7) while 24 wait", RefusedTest::twentyFourWait, FULL, x -> x.write(30, 1, 7));
        refused("write(42, 1, 7) beside 24", RefusedTest::twentyFourWait, FULL, x -> x.write(42, 1, 7));
        refused("write(40, 2, 7) over 24", RefusedTest::twentyFourWait, FULL, x -> x.write(40, 2, 7));
        refused("write(0, 9, 7) while 24 wait", RefusedTest::twentyFourWait, NONE, x -> x.write(0, 9, 7));
    }

    private static void aPartTooManyChangesNothing() {
        refused("read(4, 1) after 200", RefusedTest::twoHundredCame, FULL, x -> x.read(4, 1));
        refused("write(4, 1, 7) after 200", RefusedTest::twoHundredCame, FULL, x -> x.write(4, 1, 7));
        refused("write(0, 1, 7) after 200", RefusedTest::twoHundredCame, FULL, x -> x.write(0, 1, 7));
        refused("read(64, 1) after 200", RefusedTest::twoHundredCame, NONE, x -> x.read(64, 1));
    }

    private static void aWrongExpireChangesNothing() {
        int[][] wrong = {{-1, 7}, {7, -1}, {10001, 7}, {7, 10001}, {-1, 10001}, {Integer.MIN_VALUE, 7},
                {7, Integer.MAX_VALUE}};
        for (int[] pair : wrong) {
            refused("expire(" + pair[0] + ", " + pair[1] + ")", RefusedTest::noneWaits, 0,
                    x -> x.expire(pair[0], pair[1]) ? 1 : 0);
        }
    }

    private static void anExpireWhileOneWaitsChangesNothing() {
        refused("expire(7, 8) while some wait", RefusedTest::someWait, 0, x -> x.expire(7, 8) ? 1 : 0);
        refused("expire(7, 8) while 24 wait", RefusedTest::twentyFourWait, 0, x -> x.expire(7, 8) ? 1 : 0);
        refused("expire(-1, 8) while some wait", RefusedTest::someWait, 0, x -> x.expire(-1, 8) ? 1 : 0);
    }

    private static void aWrongTickChangesNothing() {
        for (int ms : new int[] {-1, -30, 100001, Integer.MIN_VALUE, Integer.MAX_VALUE}) {
            refused("tick(" + ms + ")", RefusedTest::someWait, 0, x -> x.tick(ms) ? 1 : 0);
            refused("tick(" + ms + ") of a new one", x -> { }, 0, x -> x.tick(ms) ? 1 : 0);
        }
    }

    private static void aDispatchOfNothingChangesNothing() {
        refused("dispatch of a new one", x -> { }, 0, DeadlineElevator::dispatch);
        refused("dispatch when all are done", RefusedTest::noneWaits, 0, DeadlineElevator::dispatch);
    }

    private static void lookingChangesNothing() {
        refused("state", RefusedTest::someWait, 1, x -> x.state(2));
        refused("value", RefusedTest::noneWaits, 101, x -> x.value(4, 0));
        refused("sector", RefusedTest::noneWaits, 301, x -> x.sector(1));
        refused("waiting", RefusedTest::someWait, 2, x -> x.waiting(1));
        refused("ready", RefusedTest::someWait, 1, x -> x.ready(0));
        refused("ready", RefusedTest::twentyFourWait, 1, x -> x.ready(1));
        refused("requestOf", RefusedTest::someWait, 0, x -> x.requestOf(3));
        refused("about", RefusedTest::someWait, 8, x -> x.about(3, 1));
        refused("latest", RefusedTest::someWait, 1, DeadlineElevator::latest);
        refused("head", RefusedTest::someWait, 12, DeadlineElevator::head);
        refused("now", RefusedTest::someWait, 30, DeadlineElevator::now);
        refused("batch", RefusedTest::someWait, 11, DeadlineElevator::batch);
    }

    private static void wrongLooksChangeNothing() {
        for (int part : new int[] {-1, 6, 200, Integer.MIN_VALUE, Integer.MAX_VALUE}) {
            refused("state of none", RefusedTest::someWait, 0, x -> x.state(part));
            refused("value of none", RefusedTest::someWait, 0, x -> x.value(part, 0));
            refused("requestOf of none", RefusedTest::someWait, NONE, x -> x.requestOf(part));
            refused("about of none", RefusedTest::someWait, NONE, x -> x.about(part, 0));
            refused("waiting of no way", RefusedTest::someWait, NONE, x -> x.waiting(part));
            refused("ready of no way", RefusedTest::someWait, NONE, x -> x.ready(part));
        }
        refused("sector of none", RefusedTest::someWait, 0, x -> x.sector(64));
        refused("about nothing", RefusedTest::someWait, NONE, x -> x.about(2, 5));
    }

    /** Whatever stands in the arguments, a call answers: 500 and a few calls for each object. */
    private static void strangeNumbersThrowNothing() {
        for (int a : STRANGE) {
            DeadlineElevator x = new DeadlineElevator();
            int answered = 0;
            for (int b : STRANGE) {
                answered += x.read(a, b) >= FULL ? 1 : 0;
                answered += x.write(a, b, a) >= FULL ? 1 : 0;
                answered += x.value(a, b) == 0 ? 1 : 0;
                answered += x.about(a, b) >= NONE ? 1 : 0;
                answered += x.expire(a, b) ? 1 : 1;
                answered += x.tick(a) ? 1 : 1;
                answered += x.state(a) >= 0 ? 1 : 0;
                answered += x.requestOf(a) >= NONE ? 1 : 0;
                answered += x.waiting(a) >= NONE ? 1 : 0;
                answered += x.ready(a) >= NONE ? 1 : 0;
                answered += x.sector(a) == 0 ? 1 : 0;
            }
            check.due("answers for " + a, answered, 11 * STRANGE.length);
        }
    }
}
