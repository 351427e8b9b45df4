/** Promises 1 to 6 and 17: a new object, read, write, barrier, expire, tick and now. */
public final class ComingTest {
    private static final int NONE = DeadlineElevator.NONE;
    private static final int FULL = DeadlineElevator.FULL;

    private static final Check check = new Check();

    public static void main(String[] args) {
        promise1NewObject();
        promise2ReadNumbersAndEdges();
        promise2ReadWrongInputs();
        promise2FullOfParts();
        promise2FullOfRequests();
        promise3WriteNumbersAndEdges();
        promise3WriteWrongInputs();
        promise3WriteIsFullLikewise();
        joinsInFrontAndBehind();
        joinsInFrontRatherThanBehind();
        joinsTheLeastNumberOfSeveral();
        joinsOnlyItsOwnWay();
        joinsUpToFourParts();
        joinsUpToSixteenSectors();
        passesOverANeighbourWithoutRoom();
        joinsNothingWhenItConflicts();
        conflictWithAnOldGroupForbidsJoining();
        joinsNothingThatIsDone();
        promise4Barrier();
        promise5Expire();
        promise5ExpireRefused();
        promise6And17TickAndNow();
        check.end();
    }

    private static void promise1NewObject() {
        DeadlineElevator x = new DeadlineElevator();
        check.due("now of a new one", x.now(), 0);
        check.due("head of a new one", x.head(), 0);
        check.due("batch of a new one", x.batch(), 0);
        check.due("latest of a new one", x.latest(), NONE);
        for (int way = 0; way <= 1; way++) {
            check.due("waiting of a new one", x.waiting(way), 0);
            check.due("ready of a new one", x.ready(way), 0);
        }
        for (int i = 0; i < 64; i++) {
            check.due("sector of a new one", x.sector(i), 0);
        }
        check.due("state of a new one", x.state(0), 0);
        check.due("requestOf of a new one", x.requestOf(0), NONE);
        check.due("dispatch of a new one", x.dispatch(), 0);
        x.read(0, 1);
        x.write(10, 1, 1);
        check.due("first expiry of reading", x.about(0, 2), 50);
        check.due("first expiry of writing", x.about(1, 2), 500);
        check.due("first group", x.about(0, 3), 0);
        check.due("another object has a state of its own", new DeadlineElevator().waiting(0), 0);
    }

    private static void promise2ReadNumbersAndEdges() {
        DeadlineElevator x = new DeadlineElevator();
        check.due("read(0, 1)", x.read(0, 1), 0);
        check.due("read(0, 8)", x.read(0, 8), 1);
        check.due("read(63, 1)", x.read(63, 1), 2);
        check.due("read(56, 8)", x.read(56, 8), 3);
        check.due("about(3, 0)", x.about(3, 0), 56);
        check.due("about(3, 1)", x.about(3, 1), 8);
        check.due("about(3, 4)", x.about(3, 4), 0);
        check.due("waiting(0)", x.waiting(0), 4);
    }

    private static void promise2ReadWrongInputs() {
        DeadlineElevator x = new DeadlineElevator();
        check.due("read(0, 0)", x.read(0, 0), NONE);
        check.due("read(0, -1)", x.read(0, -1), NONE);
        check.due("read(0, 9)", x.read(0, 9), NONE);
        check.due("read(-1, 1)", x.read(-1, 1), NONE);
        check.due("read(64, 1)", x.read(64, 1), NONE);
        check.due("read(57, 8)", x.read(57, 8), NONE);
        check.due("read(MAX, 8)", x.read(Integer.MAX_VALUE, 8), NONE);
        check.due("read(MIN, 8)", x.read(Integer.MIN_VALUE, 8), NONE);
        check.due("read(0, MIN)", x.read(0, Integer.MIN_VALUE), NONE);
        check.due("read(1, MAX)", x.read(1, Integer.MAX_VALUE), NONE);
        check.due("waiting(0) after refusals", x.waiting(0), 0);
        check.due("the first number after refusals", x.read(5, 1), 0);
    }

    private static void promise2FullOfParts() {
        DeadlineElevator x = new DeadlineElevator();
        for (int i = 0; i < 200; i++) {
            check.due("read no. " + i, x.read(i % 57, 8), i);
            x.dispatch();
        }
        check.due("read after 200 parts", x.read(0, 1), FULL);
        check.due("write after 200 parts", x.write(0, 1, 1), FULL);
        check.due("a wrong read after 200 parts", x.read(0, 9), NONE);
        check.due("state(199)", x.state(199), 2);
        check.due("state(200)", x.state(200), 0);
        check.due("dispatch after 200 parts", x.dispatch(), 0);
    }

    private static void promise2FullOfRequests() {
        DeadlineElevator x = new DeadlineElevator();
        for (int i = 0; i < 24; i++) {
            check.due("read no. " + i, x.read(20, 2), i);
        }
        check.due("waiting(0)", x.waiting(0), 24);
        check.due("read while 24 wait", x.read(40, 1), FULL);
        check.due("read that would join while 24 wait", x.read(22, 1), FULL);
        check.due("a wrong read while 24 wait", x.read(64, 1), NONE);
        check.due("about(0, 1) is as before", x.about(0, 1), 2);
        check.due("state(24)", x.state(24), 0);
        check.due("dispatch", x.dispatch(), 1);
        check.due("read while 23 wait", x.read(22, 1), 24);
        check.due("requestOf(24)", x.requestOf(24), 1);
    }

    private static void promise3WriteNumbersAndEdges() {
        DeadlineElevator x = new DeadlineElevator();
        check.due("write(0, 8, 7)", x.write(0, 8, 7), 0);
        check.due("write(63, 1, -5)", x.write(63, 1, -5), 1);
        check.due("write(20, 3, MAX)", x.write(20, 3, Integer.MAX_VALUE), 2);
        check.due("about(1, 4)", x.about(1, 4), 1);
        check.due("sector(0) before it is done", x.sector(0), 0);
        x.dispatch();
        x.dispatch();
        x.dispatch();
        for (int i = 0; i < 8; i++) {
            check.due("sector " + i, x.sector(i), 7 + i);
        }
        check.due("sector 8", x.sector(8), 0);
        check.due("sector 63", x.sector(63), -5);
        check.due("sector 20", x.sector(20), Integer.MAX_VALUE);
        check.due("sector 21", x.sector(21), Integer.MIN_VALUE);
        check.due("sector 22", x.sector(22), Integer.MIN_VALUE + 1);
    }

    private static void promise3WriteWrongInputs() {
        DeadlineElevator x = new DeadlineElevator();
        check.due("write(0, 0, 1)", x.write(0, 0, 1), NONE);
        check.due("write(0, 9, 1)", x.write(0, 9, 1), NONE);
        check.due("write(-1, 2, 1)", x.write(-1, 2, 1), NONE);
        check.due("write(57, 8, 1)", x.write(57, 8, 1), NONE);
        check.due("write(64, 1, 1)", x.write(64, 1, 1), NONE);
        check.due("write(MAX, 1, 1)", x.write(Integer.MAX_VALUE, 1, 1), NONE);
        check.due("waiting(1) after refusals", x.waiting(1), 0);
        check.due("the first number after refusals", x.write(56, 8, 1), 0);
    }

    private static void promise3WriteIsFullLikewise() {
        DeadlineElevator x = new DeadlineElevator();
        for (int i = 0; i < 24; i++) {
            x.write(30, 1, i);
        }
        check.due("waiting(1)", x.waiting(1), 24);
        check.due("write while 24 wait", x.write(0, 1, 1), FULL);
        check.due("write that would join while 24 wait", x.write(31, 1, 1), FULL);
        check.due("read while 24 wait", x.read(0, 1), FULL);
        check.due("a wrong write while 24 wait", x.write(0, 0, 1), NONE);
    }

    private static void joinsInFrontAndBehind() {
        DeadlineElevator x = new DeadlineElevator();
        x.read(10, 2);
        x.tick(7);
        x.read(12, 3);
        x.read(9, 1);
        check.due("requestOf(1)", x.requestOf(1), 0);
        check.due("requestOf(2)", x.requestOf(2), 0);
        check.due("start", x.about(1, 0), 9);
        check.due("length", x.about(1, 1), 6);
        check.due("deadline stays", x.about(2, 2), 50);
        check.due("waiting(0)", x.waiting(0), 1);
        x.read(16, 1);
        check.due("a gap of one sector", x.requestOf(3), 3);
        x.read(13, 1);
        check.due("an overlap is no neighbour", x.requestOf(4), 4);
        check.due("deadline of a later one", x.about(4, 2), 57);
    }

    private static void joinsInFrontRatherThanBehind() {
        DeadlineElevator x = new DeadlineElevator();
        x.write(12, 2, 1);
        x.write(8, 2, 1);
        x.write(10, 2, 1);
        check.due("requestOf(2)", x.requestOf(2), 1);
        check.due("the one in front grew", x.about(1, 1), 4);
        check.due("the one behind did not", x.about(0, 1), 2);
    }

    private static void joinsTheLeastNumberOfSeveral() {
        DeadlineElevator x = new DeadlineElevator();
        x.read(10, 2);
        x.read(9, 3);
        x.read(12, 1);
        check.due("of two in front", x.requestOf(2), 0);
        x.read(12, 1);
        check.due("of two in front, the first longer now", x.requestOf(3), 1);
        x.read(40, 2);
        x.read(40, 3);
        x.read(39, 1);
        check.due("of two behind", x.requestOf(6), 4);
    }

    private static void joinsOnlyItsOwnWay() {
        DeadlineElevator x = new DeadlineElevator();
        x.read(10, 2);
        x.write(12, 2, 1);
        x.write(8, 2, 1);
        x.read(14, 1);
        for (int part = 0; part < 4; part++) {
            check.due("requestOf(" + part + ")", x.requestOf(part), part);
        }
    }

    private static void joinsUpToFourParts() {
        DeadlineElevator x = new DeadlineElevator();
        for (int i = 0; i < 5; i++) {
            x.read(10 + i, 1);
        }
        check.due("the fourth part", x.requestOf(3), 0);
        check.due("the fifth part", x.requestOf(4), 4);
        check.due("length", x.about(0, 1), 4);
        check.due("dispatch", x.dispatch(), 4);
        check.due("dispatch", x.dispatch(), 1);
    }

    private static void joinsUpToSixteenSectors() {
        DeadlineElevator x = new DeadlineElevator();
        x.write(10, 8, 1);
        x.write(18, 7, 1);
        x.write(25, 2, 1);
        check.due("17 sectors", x.requestOf(2), 2);
        x.write(9, 1, 1);
        check.due("16 sectors", x.requestOf(3), 0);
        check.due("length", x.about(0, 1), 16);
    }

    private static void passesOverANeighbourWithoutRoom() {
        DeadlineElevator x = new DeadlineElevator();
        x.read(0, 8);
        x.read(8, 8);
        x.read(17, 2);
        x.read(16, 1);
        check.due("in front is too long, behind has room", x.requestOf(3), 2);
        DeadlineElevator y = new DeadlineElevator();
        y.read(0, 8);
        y.read(8, 8);
        y.read(14, 2);
        y.read(16, 1);
        check.due("the first in front is too long, the second has room", y.requestOf(3), 2);
    }

    private static void joinsNothingWhenItConflicts() {
        DeadlineElevator x = new DeadlineElevator();
        x.write(10, 4, 1);
        x.write(20, 4, 1);
        x.read(24, 2);
        x.write(24, 1, 5);
        check.due("a write over a waiting read", x.requestOf(3), 3);
        x.read(26, 2);
        check.due("a read beside a read", x.requestOf(4), 2);
        x.read(9, 1);
        x.read(10, 1);
        check.due("a read over a waiting write", x.requestOf(6), 6);
        x.write(14, 2, 1);
        check.due("a write without conflict", x.requestOf(7), 0);
        x.write(16, 3, 1);
        check.due("another write without conflict", x.requestOf(8), 0);
        x.write(19, 2, 1);
        check.due("a write over a waiting write", x.requestOf(9), 9);
    }

    private static void conflictWithAnOldGroupForbidsJoining() {
        DeadlineElevator x = new DeadlineElevator();
        x.write(12, 1, 1);
        x.barrier();
        x.read(10, 2);
        x.read(12, 1);
        check.due("a conflict with a lesser group", x.requestOf(2), 2);
        x.read(8, 2);
        check.due("no conflict", x.requestOf(3), 1);
    }

    private static void joinsNothingThatIsDone() {
        DeadlineElevator x = new DeadlineElevator();
        x.write(10, 2, 1);
        x.dispatch();
        x.write(12, 2, 1);
        check.due("the neighbour is done", x.requestOf(1), 1);
        x.write(14, 2, 1);
        check.due("the neighbour waits", x.requestOf(2), 1);
        x.dispatch();
        x.read(15, 1);
        x.read(16, 1);
        check.due("done writes conflict no more", x.requestOf(4), 3);
    }

    private static void promise4Barrier() {
        DeadlineElevator x = new DeadlineElevator();
        x.read(10, 2);
        check.due("barrier", x.barrier(), 1);
        x.read(12, 2);
        check.due("joins nothing of another group", x.requestOf(1), 1);
        check.due("barrier", x.barrier(), 2);
        check.due("barrier", x.barrier(), 3);
        x.read(14, 2);
        check.due("group 0", x.about(0, 3), 0);
        check.due("group 1", x.about(1, 3), 1);
        check.due("group 3", x.about(2, 3), 3);
        for (int part = 0; part < 3; part++) {
            check.due("only the least group is ready", x.ready(0), 1);
            x.dispatch();
            check.due("done in the order of groups", x.latest(), part);
        }
        check.due("barrier while none waits", x.barrier(), 4);
    }

    private static void promise5Expire() {
        DeadlineElevator x = new DeadlineElevator();
        check.due("expire(0, 10000)", x.expire(0, 10000), true);
        x.tick(3);
        x.read(0, 1);
        x.write(10, 1, 1);
        check.due("deadline of reading", x.about(0, 2), 3);
        check.due("deadline of writing", x.about(1, 2), 10003);
        x.dispatch();
        check.due("expire while a request waits", x.expire(1, 1), false);
        x.dispatch();
        check.due("expire(10000, 0)", x.expire(10000, 0), true);
        x.read(20, 1);
        x.write(30, 1, 1);
        check.due("deadline of reading", x.about(2, 2), 10003);
        check.due("deadline of writing", x.about(3, 2), 3);
    }

    private static void promise5ExpireRefused() {
        DeadlineElevator x = new DeadlineElevator();
        check.due("expire(-1, 0)", x.expire(-1, 0), false);
        check.due("expire(0, -1)", x.expire(0, -1), false);
        check.due("expire(10001, 0)", x.expire(10001, 0), false);
        check.due("expire(0, 10001)", x.expire(0, 10001), false);
        check.due("expire(MIN, MAX)", x.expire(Integer.MIN_VALUE, Integer.MAX_VALUE), false);
        x.read(0, 1);
        x.write(10, 1, 1);
        check.due("expire while both ways wait", x.expire(5, 5), false);
        x.read(20, 1);
        check.due("deadline of reading is as before", x.about(2, 2), 50);
        check.due("deadline of writing is as before", x.about(1, 2), 500);
    }

    private static void promise6And17TickAndNow() {
        DeadlineElevator x = new DeadlineElevator();
        check.due("tick(0)", x.tick(0), true);
        check.due("now", x.now(), 0);
        check.due("tick(100000)", x.tick(100000), true);
        check.due("tick(1)", x.tick(1), true);
        check.due("now", x.now(), 100001);
        check.due("tick(-1)", x.tick(-1), false);
        check.due("tick(100001)", x.tick(100001), false);
        check.due("tick(MIN)", x.tick(Integer.MIN_VALUE), false);
        check.due("tick(MAX)", x.tick(Integer.MAX_VALUE), false);
        check.due("now after refusals", x.now(), 100001);
        x.read(0, 1);
        check.due("deadline counts from now", x.about(0, 2), 100051);
        x.dispatch();
        check.due("dispatching takes no time", x.now(), 100001);
    }
}
