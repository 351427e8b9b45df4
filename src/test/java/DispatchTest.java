/** Promises 7, 15, 16 and 18: dispatch, latest, head and batch. */
public final class DispatchTest {
    private static final int NONE = DeadlineElevator.NONE;

    private static final Check check = new Check();

    public static void main(String[] args) {
        promise7NoneWaits();
        promise7DoesAllParts();
        sweepsUpwardInBatchesOfFour();
        aNewBatchGoesAroundWhenNothingIsAhead();
        theHeadItselfIsNotBelowTheHead();
        theLeastNumberOfEqualStarts();
        aBatchEndsWhenItsWayHasNothingAhead();
        aBatchGoesOnPastExpiredOnes();
        aNewBatchBeginsWithTheLeastDeadline();
        theLeastNumberOfEqualDeadlines();
        aDeadlineCountsFromItsVeryMillisecond();
        writingStarvesTwiceAtMost();
        starvedStaysWhenNoWritingIsReady();
        starvedEndsWithAWritingBatch();
        aWritingBatchGoesOnThoughReadingIsReady();
        theBatchOutlastsAnEmptyQueue();
        conflictsKeepTheOrderOfComing();
        promise15And16LatestAndHead();
        check.end();
    }

    /** Dispatches, and looks at the answer, at latest and at batch. */
    private static void next(DeadlineElevator x, int parts, int latest, int batch) {
        check.due("dispatch of " + latest, x.dispatch(), parts);
        check.due("latest", x.latest(), latest);
        check.due("batch after " + latest, x.batch(), batch);
    }

    private static void promise7NoneWaits() {
        DeadlineElevator x = new DeadlineElevator();
        check.due("dispatch", x.dispatch(), 0);
        check.due("latest", x.latest(), NONE);
        check.due("batch", x.batch(), 0);
        x.write(5, 2, 1);
        next(x, 1, 0, 6);
        check.due("dispatch", x.dispatch(), 0);
        check.due("latest stays", x.latest(), 0);
        check.due("batch stays", x.batch(), 6);
        check.due("head stays", x.head(), 7);
    }

    private static void promise7DoesAllParts() {
        DeadlineElevator x = new DeadlineElevator();
        x.write(10, 2, 100);
        x.write(40, 1, 400);
        x.write(12, 2, 200);
        x.write(9, 1, 300);
        next(x, 3, 0, 6);
        check.due("state(0)", x.state(0), 2);
        check.due("state(1)", x.state(1), 1);
        check.due("state(2)", x.state(2), 2);
        check.due("state(3)", x.state(3), 2);
        int[] want = {0, 300, 100, 101, 200, 201, 0};
        for (int i = 0; i < want.length; i++) {
            check.due("sector " + (8 + i), x.sector(8 + i), want[i]);
        }
        check.due("sector 40", x.sector(40), 0);
        next(x, 1, 1, 7);
        check.due("sector 40", x.sector(40), 400);
    }

    private static void sweepsUpwardInBatchesOfFour() {
        DeadlineElevator x = new DeadlineElevator();
        x.read(50, 1);
        x.read(10, 1);
        x.read(30, 1);
        x.read(20, 1);
        x.read(40, 1);
        x.read(5, 1);
        next(x, 1, 5, 1);
        next(x, 1, 1, 2);
        next(x, 1, 3, 3);
        next(x, 1, 2, 4);
        next(x, 1, 4, 1);
        next(x, 1, 0, 2);
    }

    private static void aNewBatchGoesAroundWhenNothingIsAhead() {
        DeadlineElevator x = new DeadlineElevator();
        x.read(40, 2);
        next(x, 1, 0, 1);
        x.read(30, 1);
        x.read(10, 1);
        next(x, 1, 2, 1);
        next(x, 1, 1, 2);
    }

    private static void theHeadItselfIsNotBelowTheHead() {
        DeadlineElevator x = new DeadlineElevator();
        x.read(10, 4);
        next(x, 1, 0, 1);
        x.read(12, 1);
        x.read(20, 1);
        x.read(14, 1);
        next(x, 1, 3, 2);
        next(x, 1, 2, 3);
        next(x, 1, 1, 1);
    }

    private static void theLeastNumberOfEqualStarts() {
        DeadlineElevator x = new DeadlineElevator();
        for (int i = 0; i < 6; i++) {
            x.read(20, 1 + i);
            x.read(0, 1 + i);
        }
        next(x, 1, 1, 1);
        next(x, 1, 0, 2);
        next(x, 1, 3, 1);
        next(x, 1, 2, 2);
        next(x, 1, 5, 1);
    }

    private static void aBatchEndsWhenItsWayHasNothingAhead() {
        DeadlineElevator x = new DeadlineElevator();
        x.write(30, 1, 1);
        next(x, 1, 0, 6);
        x.write(20, 1, 1);
        x.read(40, 1);
        next(x, 1, 2, 11);
        next(x, 1, 1, 6);
    }

    private static void aBatchGoesOnPastExpiredOnes() {
        DeadlineElevator x = new DeadlineElevator();
        x.read(30, 1);
        next(x, 1, 0, 1);
        x.read(10, 1);
        x.tick(60);
        x.read(50, 1);
        next(x, 1, 2, 2);
        next(x, 1, 1, 1);
    }

    private static void aNewBatchBeginsWithTheLeastDeadline() {
        DeadlineElevator x = new DeadlineElevator();
        x.read(40, 1);
        x.tick(10);
        x.read(20, 1);
        x.tick(10);
        x.read(5, 1);
        x.tick(45);
        next(x, 1, 0, 1);
        next(x, 1, 1, 1);
        x.read(10, 1);
        next(x, 1, 2, 1);
        next(x, 1, 3, 2);
    }

    private static void theLeastNumberOfEqualDeadlines() {
        DeadlineElevator x = new DeadlineElevator();
        x.read(40, 1);
        x.read(20, 1);
        x.read(30, 1);
        x.tick(50);
        next(x, 1, 0, 1);
        next(x, 1, 1, 1);
        next(x, 1, 2, 2);
    }

    private static void aDeadlineCountsFromItsVeryMillisecond() {
        for (int ms = 49; ms <= 50; ms++) {
            DeadlineElevator x = new DeadlineElevator();
            x.read(40, 1);
            x.tick(1);
            x.read(20, 1);
            x.tick(ms - 1);
            next(x, 1, ms == 49 ? 1 : 0, 1);
        }
    }

    private static void writingStarvesTwiceAtMost() {
        DeadlineElevator x = new DeadlineElevator();
        x.write(0, 1, 1);
        x.read(40, 1);
        next(x, 1, 1, 11);
        x.read(30, 1);
        next(x, 1, 2, 21);
        x.read(20, 1);
        next(x, 1, 0, 6);
        next(x, 1, 3, 1);
    }

    private static void starvedStaysWhenNoWritingIsReady() {
        DeadlineElevator x = new DeadlineElevator();
        x.read(60, 1);
        next(x, 1, 0, 1);
        x.read(50, 1);
        x.write(50, 1, 7);
        next(x, 1, 1, 1);
        x.read(40, 1);
        next(x, 1, 3, 11);
        x.read(30, 1);
        next(x, 1, 4, 21);
        next(x, 1, 2, 6);
        x.read(20, 1);
        next(x, 1, 5, 1);
    }

    private static void starvedEndsWithAWritingBatch() {
        DeadlineElevator x = new DeadlineElevator();
        x.write(60, 1, 1);
        x.read(40, 1);
        next(x, 1, 1, 11);
        next(x, 1, 0, 6);
        x.write(30, 1, 1);
        x.read(20, 1);
        next(x, 1, 3, 11);
        x.read(10, 1);
        next(x, 1, 4, 21);
        x.read(5, 1);
        next(x, 1, 2, 6);
    }

    private static void aWritingBatchGoesOnThoughReadingIsReady() {
        DeadlineElevator x = new DeadlineElevator();
        for (int i = 0; i < 6; i++) {
            x.write(10 * i, 1, i);
        }
        next(x, 1, 0, 6);
        x.read(5, 1);
        next(x, 1, 1, 7);
        next(x, 1, 2, 8);
        next(x, 1, 3, 9);
        next(x, 1, 6, 11);
        next(x, 1, 4, 6);
        next(x, 1, 5, 7);
    }

    private static void theBatchOutlastsAnEmptyQueue() {
        DeadlineElevator x = new DeadlineElevator();
        x.write(10, 1, 1);
        next(x, 1, 0, 6);
        check.due("dispatch", x.dispatch(), 0);
        x.read(20, 1);
        x.write(30, 1, 1);
        next(x, 1, 2, 7);
        next(x, 1, 1, 1);
    }

    private static void conflictsKeepTheOrderOfComing() {
        DeadlineElevator x = new DeadlineElevator();
        x.write(30, 4, 10);
        x.read(28, 4);
        x.write(28, 4, 50);
        x.read(31, 1);
        next(x, 1, 0, 6);
        next(x, 1, 1, 1);
        next(x, 1, 2, 6);
        next(x, 1, 3, 1);
        check.due("value(1, 1)", x.value(1, 1), 0);
        check.due("value(1, 2)", x.value(1, 2), 10);
        check.due("value(1, 3)", x.value(1, 3), 11);
        check.due("value(3, 0)", x.value(3, 0), 53);
        check.due("sector(33)", x.sector(33), 13);
    }

    private static void promise15And16LatestAndHead() {
        DeadlineElevator x = new DeadlineElevator();
        check.due("latest", x.latest(), NONE);
        check.due("head", x.head(), 0);
        x.read(56, 8);
        x.read(48, 8);
        x.dispatch();
        check.due("latest is the request, not its last part", x.latest(), 0);
        check.due("head behind the last sector", x.head(), 64);
        x.write(3, 2, 1);
        check.due("head stays while a part comes", x.head(), 64);
        x.write(1, 2, 1);
        x.dispatch();
        check.due("latest", x.latest(), 2);
        check.due("head", x.head(), 5);
    }
}
