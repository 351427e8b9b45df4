/**
 * The boundary cases of promises 1 to 6 and 17, and of what the terms say of parts that come. Each
 * method stands for the sentence of the document above it.
 */
public final class ComingEdgesTest {
    private static final int NONE = DeadlineElevator.NONE;
    private static final int FULL = DeadlineElevator.FULL;
    private static final int MIN = Integer.MIN_VALUE;
    private static final int MAX = Integer.MAX_VALUE;

    private static final Check check = new Check();

    public static void main(String[] args) {
        aNewDiskIsAllZero();
        aNewObjectOwesNothingToAnother();
        anObjectLastsForAllItsCalls();
        for (int way = 0; way <= 1; way++) {
            sectorsTooFewOrTooMany(way);
            beginsBelowTheDisk(way);
            endsBehindTheDisk(way);
            everyPlaceOnAndAroundTheDisk(way);
            theDiskDoesNotGoAround(way);
            numbersCountOnlyThoseThatCame(way);
            fullOfPartsThatAreDone(way);
            fullOfPartsWhileSomeWait(way);
            fullOfRequests(way);
            fullAlsoForOneThatWouldJoin(way);
            fullOfRequestsNotOfParts(way);
            wrongArgumentsWhileFull(way);
        }
        fullOfBothWays();
        fullOfAllGroups();
        writtenNumbersWrapAround();
        writtenNumbersMayLookLikeAnswers();
        theBarriersOfAWholeRun();
        barriersBeforeTheFirstPart();
        expiriesAtTheirEnds();
        expiriesTooSmallOrTooLarge();
        expireRefusedWhileOneWaits();
        expireTakenWhenNoneWaits();
        ticksAtTheirEnds();
        ticksTooSmallOrTooLarge();
        theTimeOfAWholeRun();
        check.end();
    }

    private static int come(DeadlineElevator x, int way, int s, int n) {
        return way == 0 ? x.read(s, n) : x.write(s, n, 1000 * s);
    }

    private static void due(int way, int s, int n, int want) {
        String call = (way == 0 ? "read(" : "write(") + s + ", " + n + ")";
        check.due(call + " of a new one", come(new DeadlineElevator(), way, s, n), want);
    }

    /** "The DISK has SECTORS 0 .. 63, each an int, all 0 at first." */
    private static void aNewDiskIsAllZero() {
        DeadlineElevator x = new DeadlineElevator();
        for (int s = 0; s < 64; s += 8) {
            check.due("read of a new disk", x.read(s, 8), s / 8);
        }
        for (int i = 0; i < 4; i++) {
            check.due("dispatch", x.dispatch(), 2);
        }
        for (int s = 0; s < 64; s++) {
            check.due("sector " + s, x.sector(s), 0);
            check.due("the value read from sector " + s, x.value(s / 8, s % 8), 0);
        }
    }

    /** "makes an object in the state that the terms give." */
    private static void aNewObjectOwesNothingToAnother() {
        DeadlineElevator used = new DeadlineElevator();
        used.expire(7, 8);
        used.tick(9);
        used.barrier();
        used.write(20, 2, 5);
        used.read(40, 2);
        used.dispatch();
        DeadlineElevator x = new DeadlineElevator();
        check.due("now", x.now(), 0);
        check.due("head", x.head(), 0);
        check.due("batch", x.batch(), 0);
        check.due("latest", x.latest(), NONE);
        check.due("waiting(0)", x.waiting(0), 0);
        check.due("waiting(1)", x.waiting(1), 0);
        check.due("state(0)", x.state(0), 0);
        check.due("sector(20)", x.sector(20), 0);
        check.due("the first number", x.write(0, 1, 1), 0);
        check.due("the second number", x.read(10, 1), 1);
        check.due("the first expiry of writing", x.about(0, 2), 500);
        check.due("the first expiry of reading", x.about(1, 2), 50);
        check.due("the first group", x.about(0, 3), 0);
        check.due("the first barrier", x.barrier(), 1);
        check.due("dispatch", x.dispatch(), 1);
        check.due("starved was 0, the count was 0", x.batch(), 11);
        check.due("the used one still has its own", used.waiting(1), 1);
    }

    /** "An object is used for at most 512 calls after it has been made" */
    private static void anObjectLastsForAllItsCalls() {
        DeadlineElevator x = new DeadlineElevator();
        int calls = 0;
        for (int i = 0; i < 170; i++) {
            check.due("write no. " + i, x.write(i % 57, 8, i), i);
            check.due("dispatch no. " + i, x.dispatch(), 1);
            check.due("sector after no. " + i, x.sector(i % 57 + 7), i + 7);
            calls += 3;
        }
        check.due("read, call 511", x.read(0, 8), 170);
        check.due("dispatch, call 512", x.dispatch(), 1);
        check.due("calls", calls + 2, 512);
    }

    /** "NONE when n is not 1 .. 8" */
    private static void sectorsTooFewOrTooMany(int way) {
        for (int n = 1; n <= 8; n++) {
            due(way, 0, n, 0);
            due(way, 30, n, 0);
        }
        for (int n : new int[] {0, -1, -8, -64, MIN, MIN + 1, 9, 10, 16, 17, 64, MAX - 1, MAX}) {
            due(way, 0, n, NONE);
            due(way, 30, n, NONE);
            due(way, 63, n, NONE);
            due(way, 64, n, NONE);
        }
    }

    /** "NONE when .. s is below 0" */
    private static void beginsBelowTheDisk(int way) {
        for (int n = 1; n <= 8; n++) {
            for (int s : new int[] {-1, -2, -7, -8, -9, -64, MIN, MIN + 1}) {
                due(way, s, n, NONE);
            }
        }
    }

    /** "NONE when .. s + n is above 64" */
    private static void endsBehindTheDisk(int way) {
        for (int n = 1; n <= 8; n++) {
            due(way, 64 - n, n, 0);
            due(way, 65 - n, n, NONE);
            due(way, 63, n, n == 1 ? 0 : NONE);
            due(way, 64, n, NONE);
            due(way, 65, n, NONE);
            // Here the sum wraps around to a number below 64.
            due(way, MAX, n, NONE);
            due(way, MAX - n + 1, n, NONE);
            due(way, MAX - n, n, NONE);
        }
    }

    /** "NONE when n is not 1 .. 8, s is below 0, or s + n is above 64", everywhere. */
    private static void everyPlaceOnAndAroundTheDisk(int way) {
        for (int s = -70; s <= 140; s++) {
            for (int n = -10; n <= 70; n++) {
                boolean wrong = n < 1 || n > 8 || s < 0 || s + n > 64;
                due(way, s, n, wrong ? NONE : 0);
            }
        }
    }

    /** "s + n is above 64": sector 0 does not lie behind sector 63. */
    private static void theDiskDoesNotGoAround(int way) {
        DeadlineElevator x = new DeadlineElevator();
        check.due("the last sector", come(x, way, 63, 1), 0);
        check.due("the first sector", come(x, way, 0, 1), 1);
        check.due("they are no neighbours", x.requestOf(1), 1);
        check.due("two sectors from the last on", come(x, way, 63, 2), NONE);
    }

    /** "parts are numbered 0, 1, .. as they come." */
    private static void numbersCountOnlyThoseThatCame(int way) {
        DeadlineElevator x = new DeadlineElevator();
        check.due("a wrong one", come(x, way, 64, 1), NONE);
        check.due("the first", come(x, way, 10, 2), 0);
        check.due("a wrong one", come(x, way, 10, 0), NONE);
        check.due("one that joins has a number too", come(x, way, 12, 2), 1);
        x.barrier();
        x.dispatch();
        check.due("neither a barrier nor a dispatch has one", come(x, way, 10, 2), 2);
        check.due("the other way has numbers of the same row", come(x, 1 - way, 30, 2), 3);
    }

    /** "FULL when 200 parts came already": none of them waits. */
    private static void fullOfPartsThatAreDone(int way) {
        DeadlineElevator x = new DeadlineElevator();
        for (int i = 0; i < 200; i++) {
            check.due("part no. " + i, come(x, way, i % 64, 1), i);
            check.due("dispatch no. " + i, x.dispatch(), 1);
        }
        check.due("waiting(" + way + ")", x.waiting(way), 0);
        check.due("read of part no. 200", x.read(20, 1), FULL);
        check.due("write of part no. 200", x.write(20, 1, 1), FULL);
        check.due("state(199)", x.state(199), 2);
        check.due("state(200)", x.state(200), 0);
        check.due("nothing to dispatch", x.dispatch(), 0);
        check.due("full it stays", come(x, way, 20, 1), FULL);
    }

    /** "FULL when 200 parts came already": the last ones wait, and the last would be joined. */
    private static void fullOfPartsWhileSomeWait(int way) {
        DeadlineElevator x = new DeadlineElevator();
        for (int i = 0; i < 196; i++) {
            come(x, way, i % 4, 1);
            if (i % 4 == 3) {
                check.due("dispatch", x.dispatch(), 4);
            }
        }
        check.due("part no. 196", come(x, way, 10, 8), 196);
        check.due("part no. 197", come(x, way, 30, 8), 197);
        check.due("part no. 198", come(x, way, 18, 1), 198);
        check.due("part no. 199", come(x, way, 38, 8), 199);
        check.due("it joined", x.requestOf(199), 197);
        check.due("waiting(" + way + ")", x.waiting(way), 2);
        check.due("part no. 200", come(x, way, 50, 1), FULL);
        check.due("part no. 200, beside a neighbour", come(x, way, 19, 1), FULL);
        check.due("dispatch", x.dispatch(), 2);
        check.due("dispatch", x.dispatch(), 2);
        check.due("the eighth value of the last part", x.value(199, 7), 0);
        check.due("the last sector of the last part", x.sector(45), way == 0 ? 0 : 38007);
        check.due("part no. 200 while none waits", come(x, way, 50, 1), FULL);
    }

    /** "FULL when .. 24 requests wait." */
    private static void fullOfRequests(int way) {
        DeadlineElevator x = new DeadlineElevator();
        for (int i = 0; i < 24; i++) {
            check.due("request no. " + i, come(x, way, 20, 2), i);
        }
        check.due("waiting(" + way + ")", x.waiting(way), 24);
        check.due("read while 24 wait", x.read(50, 1), FULL);
        check.due("write while 24 wait", x.write(50, 1, 1), FULL);
        check.due("dispatch", x.dispatch(), 1);
        check.due("while 23 wait", come(x, way, 50, 1), 24);
        check.due("waiting(" + way + ")", x.waiting(way), 24);
        check.due("while 24 wait again", come(x, way, 50, 1), FULL);
        for (int i = 0; i < 24; i++) {
            check.due("dispatch", x.dispatch(), 1);
        }
        check.due("dispatch", x.dispatch(), 0);
        check.due("while none waits", come(x, way, 50, 1), 25);
    }

    /** "(Also when it would join one of them.)" */
    private static void fullAlsoForOneThatWouldJoin(int way) {
        DeadlineElevator x = new DeadlineElevator();
        come(x, way, 50, 2);
        for (int i = 0; i < 22; i++) {
            come(x, way, 20, 2);
        }
        check.due("it joins while 23 wait", come(x, way, 52, 1), 23);
        check.due("waiting(" + way + ")", x.waiting(way), 23);
        check.due("the 24th request", come(x, way, 20, 2), 24);
        check.due("it would join behind", come(x, way, 53, 1), FULL);
        check.due("it would join in front", come(x, way, 49, 1), FULL);
        check.due("requestOf", x.requestOf(25), NONE);
        check.due("the length stays", x.about(0, 1), 3);
        check.due("the start stays", x.about(0, 0), 50);
    }

    /** "24 requests wait": requests are counted, not their parts. */
    private static void fullOfRequestsNotOfParts(int way) {
        DeadlineElevator x = new DeadlineElevator();
        for (int i = 0; i < 64; i++) {
            check.due("part no. " + i, come(x, way, i, 1), i);
        }
        check.due("64 parts in requests", x.waiting(way), 16);
        for (int i = 64; i < 72; i++) {
            check.due("part no. " + i, come(x, way, 0, 2), i);
        }
        check.due("72 parts in requests", x.waiting(way), 24);
        check.due("part no. 72", come(x, way, 0, 2), FULL);
    }

    /** "NONE when n is not 1 .. 8, ..": also when there is no room. */
    private static void wrongArgumentsWhileFull(int way) {
        DeadlineElevator x = new DeadlineElevator();
        for (int i = 0; i < 24; i++) {
            come(x, way, 20, 2);
        }
        check.due("n too small while full", come(x, way, 0, 0), NONE);
        check.due("n too large while full", come(x, way, 0, 9), NONE);
        check.due("s too small while full", come(x, way, -1, 1), NONE);
        check.due("s too large while full", come(x, way, 64, 1), NONE);
    }

    /** "24 requests wait", of both ways together. */
    private static void fullOfBothWays() {
        DeadlineElevator x = new DeadlineElevator();
        for (int i = 0; i < 12; i++) {
            check.due("read", x.read(10, 2), 2 * i);
            check.due("write", x.write(40, 2, i), 2 * i + 1);
        }
        check.due("waiting(0)", x.waiting(0), 12);
        check.due("waiting(1)", x.waiting(1), 12);
        check.due("read", x.read(0, 1), FULL);
        check.due("write", x.write(60, 1, 1), FULL);
    }

    /** "24 requests wait", of all groups together. */
    private static void fullOfAllGroups() {
        DeadlineElevator x = new DeadlineElevator();
        for (int i = 0; i < 24; i++) {
            check.due("read", x.read(i, 1), i);
            check.due("barrier", x.barrier(), i + 1);
        }
        check.due("read in a group without requests", x.read(40, 1), FULL);
        check.due("write in a group without requests", x.write(40, 1, 1), FULL);
    }

    /** "Writing with v puts v + i into sector s + i", "each an int". */
    private static void writtenNumbersWrapAround() {
        int[] firsts = {MAX, MAX - 6, MAX - 7, MIN, MIN + 1, -1, -4, -8, 0};
        for (int v : firsts) {
            DeadlineElevator x = new DeadlineElevator();
            x.write(56, 8, v);
            x.read(56, 8);
            check.due("dispatch", x.dispatch(), 1);
            check.due("dispatch", x.dispatch(), 1);
            for (int i = 0; i < 8; i++) {
                check.due("sector of " + v + " + " + i, x.sector(56 + i), v + i);
                check.due("value of " + v + " + " + i, x.value(1, i), v + i);
            }
            check.due("the sector in front", x.sector(55), 0);
        }
    }

    /** "Answers likewise": the number of the part, whatever it writes. */
    private static void writtenNumbersMayLookLikeAnswers() {
        DeadlineElevator x = new DeadlineElevator();
        check.due("write of NONE", x.write(0, 1, NONE), 0);
        check.due("write of FULL", x.write(10, 1, FULL), 1);
        check.due("write of MIN", x.write(20, 1, MIN), 2);
        check.due("write of MAX", x.write(30, 1, MAX), 3);
        check.due("a wrong write of MAX", x.write(64, 1, MAX), NONE);
        check.due("waiting(1)", x.waiting(1), 4);
    }

    /** "Answers how many came so far." */
    private static void theBarriersOfAWholeRun() {
        DeadlineElevator x = new DeadlineElevator();
        for (int i = 1; i <= 508; i++) {
            check.due("barrier no. " + i, x.barrier(), i);
        }
        check.due("read", x.read(0, 1), 0);
        check.due("its group", x.about(0, 3), 508);
        check.due("ready(0)", x.ready(0), 1);
        check.due("the barrier that is call 512", x.barrier(), 509);
    }

    /** "its GROUP is the number of barriers that came before it": groups may be empty. */
    private static void barriersBeforeTheFirstPart() {
        DeadlineElevator x = new DeadlineElevator();
        check.due("barrier", x.barrier(), 1);
        check.due("barrier", x.barrier(), 2);
        x.write(10, 1, 1);
        check.due("group", x.about(0, 3), 2);
        check.due("ready(1) with two empty groups before it", x.ready(1), 1);
        check.due("barrier", x.barrier(), 3);
        check.due("a barrier behind it does not change its group", x.about(0, 3), 2);
        check.due("nor that it is ready", x.ready(1), 1);
        check.due("dispatch", x.dispatch(), 1);
        check.due("dispatch in an empty group", x.dispatch(), 0);
    }

    /** "one of them is not 0 .. 10000": 0 and 10000 are. */
    private static void expiriesAtTheirEnds() {
        int[] ends = {0, 1, 9999, 10000};
        for (int reading : ends) {
            for (int writing : ends) {
                DeadlineElevator x = new DeadlineElevator();
                check.due("expire(" + reading + ", " + writing + ")", x.expire(reading, writing), true);
                x.tick(3);
                x.read(0, 1);
                x.write(10, 1, 1);
                check.due("deadline of reading", x.about(0, 2), 3 + reading);
                check.due("deadline of writing", x.about(1, 2), 3 + writing);
            }
        }
    }

    /** "Refused (false) when .. one of them is not 0 .. 10000." */
    private static void expiriesTooSmallOrTooLarge() {
        int[] fine = {0, 1, 10000};
        for (int wrong : new int[] {-1, -50, -10000, MIN, 10001, 10050, MAX}) {
            for (int other : fine) {
                expireRefused(wrong, other);
                expireRefused(other, wrong);
            }
            expireRefused(wrong, wrong);
        }
        expireRefused(-1, 10001);
        expireRefused(10001, -1);
        expireRefused(MIN, MAX);
        expireRefused(MAX, MIN);
    }

    private static void expireRefused(int reading, int writing) {
        DeadlineElevator x = new DeadlineElevator();
        x.expire(20, 30);
        check.due("expire(" + reading + ", " + writing + ")", x.expire(reading, writing), false);
        x.read(0, 1);
        x.write(10, 1, 1);
        check.due("deadline of reading stays", x.about(0, 2), 20);
        check.due("deadline of writing stays", x.about(1, 2), 30);
    }

    /** "Refused (false) when a request waits" */
    private static void expireRefusedWhileOneWaits() {
        for (int way = 0; way <= 1; way++) {
            DeadlineElevator x = new DeadlineElevator();
            come(x, way, 10, 1);
            check.due("expire while one waits", x.expire(7, 7), false);
            check.due("expire to what it is while one waits", x.expire(50, 500), false);
            x.tick(1000);
            check.due("expire while an expired one waits", x.expire(7, 7), false);
            x.barrier();
            check.due("expire while one of an old group waits", x.expire(7, 7), false);
            come(x, way, 30, 1);
            x.dispatch();
            check.due("expire while the last one waits", x.expire(7, 7), false);
            check.due("its deadline", x.about(1, 2), 1000 + (way == 0 ? 50 : 500));
            come(x, way, 50, 1);
            check.due("the deadline of the next", x.about(2, 2), 1000 + (way == 0 ? 50 : 500));
        }
    }

    /** "The expiries are these from now on." */
    private static void expireTakenWhenNoneWaits() {
        DeadlineElevator x = new DeadlineElevator();
        x.barrier();
        check.due("expire behind a barrier", x.expire(1, 2), true);
        check.due("expire twice", x.expire(3, 4), true);
        x.read(10, 1);
        check.due("deadline of reading", x.about(0, 2), 3);
        x.dispatch();
        check.due("expire when all are done", x.expire(5, 6), true);
        x.write(10, 1, 1);
        check.due("deadline of writing", x.about(1, 2), 6);
        x.read(20, 1);
        check.due("deadline of reading", x.about(2, 2), 5);
    }

    /** "ms is not 0 .. 100000": 0 and 100000 are. */
    private static void ticksAtTheirEnds() {
        DeadlineElevator x = new DeadlineElevator();
        int due = 0;
        for (int ms : new int[] {0, 1, 99999, 100000, 0, 100000}) {
            check.due("tick(" + ms + ")", x.tick(ms), true);
            due += ms;
            check.due("now", x.now(), due);
        }
    }

    /** "Refused (false) when ms is not 0 .. 100000." */
    private static void ticksTooSmallOrTooLarge() {
        DeadlineElevator x = new DeadlineElevator();
        for (int start = 0; start <= 5; start += 5) {
            x.tick(start);
            for (int ms : new int[] {-1, -2, -100000, MIN, MIN + 1, 100001, 200000, MAX}) {
                check.due("tick(" + ms + ")", x.tick(ms), false);
                check.due("now", x.now(), start);
            }
        }
    }

    /** "TIME is counted in milliseconds, from 0." */
    private static void theTimeOfAWholeRun() {
        DeadlineElevator x = new DeadlineElevator();
        check.due("now at first", x.now(), 0);
        check.due("expire", x.expire(10000, 10000), true);
        for (int i = 0; i < 506; i++) {
            check.due("tick", x.tick(100000), true);
        }
        check.due("now", x.now(), 50600000);
        check.due("write", x.write(0, 1, 1), 0);
        check.due("deadline", x.about(0, 2), 50610000);
    }
}
