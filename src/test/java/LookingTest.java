/** Promises 8 to 14: state, value, sector, waiting, ready, requestOf and about. */
public final class LookingTest {
    private static final int NONE = DeadlineElevator.NONE;
    private static final int[] STRANGE = {-1, -2, 200, 201, 1600, Integer.MIN_VALUE, Integer.MAX_VALUE};

    private static final Check check = new Check();

    public static void main(String[] args) {
        promise8State();
        promise9Value();
        promise9ValueStaysAsItWas();
        promise10Sector();
        promise11Waiting();
        promise12Ready();
        promise12ReadyByPartsNotByRequests();
        promise12ReadyByGroups();
        promise13RequestOf();
        promise14About();
        strangePartsAreNowhere();
        lookingChangesNothing();
        check.end();
    }

    private static void promise8State() {
        DeadlineElevator x = new DeadlineElevator();
        check.due("state(0) before it came", x.state(0), 0);
        x.read(0, 1);
        x.write(10, 1, 1);
        check.due("state(0)", x.state(0), 1);
        check.due("state(1)", x.state(1), 1);
        check.due("state(2)", x.state(2), 0);
        x.dispatch();
        check.due("state(0) when done", x.state(0), 2);
        check.due("state(1)", x.state(1), 1);
        x.dispatch();
        check.due("state(1) when done", x.state(1), 2);
    }

    private static void promise9Value() {
        DeadlineElevator x = new DeadlineElevator();
        x.write(10, 8, 100);
        check.due("value of a waiting write", x.value(0, 0), 0);
        x.dispatch();
        check.due("value of a write that is done", x.value(0, 0), 0);
        x.read(12, 8);
        check.due("value of a waiting read", x.value(1, 0), 0);
        x.read(10, 2);
        x.dispatch();
        for (int i = 0; i < 8; i++) {
            check.due("value(1, " + i + ")", x.value(1, i), i < 6 ? 102 + i : 0);
        }
        check.due("value(2, 0)", x.value(2, 0), 100);
        check.due("value(2, 1)", x.value(2, 1), 101);
        check.due("value(2, 2) is behind its n", x.value(2, 2), 0);
        check.due("value(1, 8)", x.value(1, 8), 0);
        check.due("value(2, -1)", x.value(2, -1), 0);
        check.due("value(1, MIN)", x.value(1, Integer.MIN_VALUE), 0);
        check.due("value(1, MAX)", x.value(1, Integer.MAX_VALUE), 0);
        check.due("value(3, 0)", x.value(3, 0), 0);
    }

    private static void promise9ValueStaysAsItWas() {
        DeadlineElevator x = new DeadlineElevator();
        x.write(5, 2, 10);
        x.dispatch();
        x.read(5, 2);
        x.dispatch();
        x.write(5, 2, 20);
        x.dispatch();
        check.due("sector(5)", x.sector(5), 20);
        check.due("value(1, 0)", x.value(1, 0), 10);
        check.due("value(1, 1)", x.value(1, 1), 11);
    }

    private static void promise10Sector() {
        DeadlineElevator x = new DeadlineElevator();
        x.write(0, 1, 5);
        x.write(63, 1, 6);
        x.dispatch();
        x.dispatch();
        check.due("sector(0)", x.sector(0), 5);
        check.due("sector(1)", x.sector(1), 0);
        check.due("sector(62)", x.sector(62), 0);
        check.due("sector(63)", x.sector(63), 6);
        check.due("sector(-1)", x.sector(-1), 0);
        check.due("sector(64)", x.sector(64), 0);
        check.due("sector(MIN)", x.sector(Integer.MIN_VALUE), 0);
        check.due("sector(MAX)", x.sector(Integer.MAX_VALUE), 0);
    }

    private static void promise11Waiting() {
        DeadlineElevator x = new DeadlineElevator();
        x.read(0, 1);
        x.read(1, 1);
        x.read(10, 1);
        x.write(20, 1, 1);
        check.due("waiting(0)", x.waiting(0), 2);
        check.due("waiting(1)", x.waiting(1), 1);
        x.dispatch();
        check.due("waiting(0)", x.waiting(0), 1);
        x.dispatch();
        check.due("waiting(0)", x.waiting(0), 0);
        check.due("waiting(1)", x.waiting(1), 1);
        check.due("waiting(-1)", x.waiting(-1), NONE);
        check.due("waiting(2)", x.waiting(2), NONE);
        check.due("waiting(MIN)", x.waiting(Integer.MIN_VALUE), NONE);
        check.due("waiting(MAX)", x.waiting(Integer.MAX_VALUE), NONE);
    }

    private static void promise12Ready() {
        DeadlineElevator x = new DeadlineElevator();
        x.write(10, 4, 1);
        x.read(13, 2);
        x.read(14, 2);
        x.write(15, 1, 1);
        x.write(13, 1, 1);
        check.due("ready(0)", x.ready(0), 1);
        check.due("ready(1)", x.ready(1), 1);
        check.due("waiting(0)", x.waiting(0), 2);
        check.due("waiting(1)", x.waiting(1), 3);
        x.dispatch();
        check.due("latest", x.latest(), 2);
        check.due("ready(1)", x.ready(1), 2);
        check.due("ready(-1)", x.ready(-1), NONE);
        check.due("ready(2)", x.ready(2), NONE);
        check.due("ready(MIN)", x.ready(Integer.MIN_VALUE), NONE);
        check.due("ready(MAX)", x.ready(Integer.MAX_VALUE), NONE);
    }

    /** A part that joined late does not make its request wait for those that came in between. */
    private static void promise12ReadyByPartsNotByRequests() {
        DeadlineElevator x = new DeadlineElevator();
        x.write(10, 2, 1);
        x.read(10, 1);
        x.write(12, 2, 1);
        check.due("requestOf(2)", x.requestOf(2), 0);
        x.read(13, 1);
        check.due("ready(0)", x.ready(0), 0);
        check.due("ready(1)", x.ready(1), 1);
        check.due("dispatch", x.dispatch(), 2);
        check.due("ready(0)", x.ready(0), 2);
    }

    private static void promise12ReadyByGroups() {
        DeadlineElevator x = new DeadlineElevator();
        x.write(10, 1, 1);
        x.write(20, 1, 1);
        x.barrier();
        x.read(30, 1);
        x.write(40, 1, 1);
        check.due("ready(0)", x.ready(0), 0);
        check.due("ready(1)", x.ready(1), 2);
        x.dispatch();
        check.due("ready(0) while one of the group waits", x.ready(0), 0);
        check.due("ready(1) while one of the group waits", x.ready(1), 1);
        x.dispatch();
        check.due("ready(0)", x.ready(0), 1);
        check.due("ready(1)", x.ready(1), 1);
    }

    private static void promise13RequestOf() {
        DeadlineElevator x = new DeadlineElevator();
        x.read(10, 1);
        x.read(30, 1);
        x.read(31, 1);
        check.due("requestOf(0)", x.requestOf(0), 0);
        check.due("requestOf(1)", x.requestOf(1), 1);
        check.due("requestOf(2)", x.requestOf(2), 1);
        check.due("requestOf(3)", x.requestOf(3), NONE);
        x.dispatch();
        check.due("requestOf(0) when done", x.requestOf(0), NONE);
        check.due("requestOf(2)", x.requestOf(2), 1);
        x.dispatch();
        check.due("requestOf(2) when done", x.requestOf(2), NONE);
    }

    private static void promise14About() {
        DeadlineElevator x = new DeadlineElevator();
        x.read(0, 1);
        x.barrier();
        x.tick(20);
        x.write(30, 3, 1);
        x.tick(20);
        x.write(28, 2, 1);
        int[] want = {28, 5, 520, 1, 1};
        for (int what = 0; what < want.length; what++) {
            check.due("about(1, " + what + ")", x.about(1, what), want[what]);
            check.due("about(2, " + what + ")", x.about(2, what), want[what]);
            check.due("about(3, " + what + ")", x.about(3, what), NONE);
        }
        check.due("about(0, 4)", x.about(0, 4), 0);
        check.due("about(0, 3)", x.about(0, 3), 0);
        check.due("about(1, -1)", x.about(1, -1), NONE);
        check.due("about(1, 5)", x.about(1, 5), NONE);
        check.due("about(1, MIN)", x.about(1, Integer.MIN_VALUE), NONE);
        check.due("about(1, MAX)", x.about(1, Integer.MAX_VALUE), NONE);
        x.dispatch();
        for (int what = 0; what < want.length; what++) {
            check.due("about(0, " + what + ") when done", x.about(0, what), NONE);
        }
    }

    private static void strangePartsAreNowhere() {
        DeadlineElevator x = new DeadlineElevator();
        x.read(0, 1);
        for (int part : STRANGE) {
            check.due("state(" + part + ")", x.state(part), 0);
            check.due("value(" + part + ", 0)", x.value(part, 0), 0);
            check.due("requestOf(" + part + ")", x.requestOf(part), NONE);
            check.due("about(" + part + ", 0)", x.about(part, 0), NONE);
        }
    }

    private static void lookingChangesNothing() {
        DeadlineElevator x = new DeadlineElevator();
        x.write(10, 1, 1);
        x.read(10, 1);
        for (int round = 0; round < 3; round++) {
            check.due("ready(0)", x.ready(0), 0);
            check.due("ready(1)", x.ready(1), 1);
            check.due("waiting(0)", x.waiting(0), 1);
            check.due("batch", x.batch(), 0);
            check.due("head", x.head(), 0);
            check.due("latest", x.latest(), NONE);
            check.due("state(0)", x.state(0), 1);
        }
    }
}
