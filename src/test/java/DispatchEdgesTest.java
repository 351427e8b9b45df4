/**
 * The boundary cases of promises 7, 15, 16 and 18, and of the rules of dispatching. Each method
 * stands for the sentence of the document above it.
 */
public final class DispatchEdgesTest {
    private static final int NONE = DeadlineElevator.NONE;

    private static final Check check = new Check();

    public static void main(String[] args) {
        noneWaitsInANewObject();
        noneWaitsWhenAllAreDone();
        fromOneToFourParts();
        onlyItsOwnParts();
        noPartIsDoneTwice();
        allOfTwentyFour();
        for (int way = 0; way <= 1; way++) {
            theCountGoesFromOneToFour(way);
            aBatchGoesOnFromTheHeadOn(way);
            aBatchDoesNotGoOnBelowTheHead(way);
            aBatchTakesTheLeastStartAhead(way);
            aStartThatChangedCounts(way);
            aBatchGoesOnWithReadyOnesOnly(way);
            aDeadlineAtThePresentTime(way);
            theLeastDeadline(way);
            theLeastNumberOfEqualDeadlines(way);
            deadlinesOfReadyOnesOnly(way);
            aNewBatchBeginsFromTheHeadOn(way);
            aNewBatchGoesAround(way);
            expiryZero(way);
        }
        aBatchTakesTheLeastNumberOfEqualStarts();
        aNewBatchTakesTheLeastNumberOfEqualStarts();
        aCountOfZeroBeginsABatch();
        deadlinesOfTheOtherWayDoNotCount();
        readingWhenNoWritingIsReady();
        writingWhenNoReadingIsReady();
        starvedFromZeroToTwo();
        starvedEndsAtZeroWithoutReading();
        latestIsNoneUntilOneWasDispatched();
        latestMayBeTheFirstNumber();
        theHeadAtTheEndsOfTheDisk();
        theHeadBehindTheLongestRequest();
        theBatchBeforeTheFirstDispatch();
        theLeastAndTheGreatestBatch();
        check.end();
    }

    private static int come(DeadlineElevator x, int way, int s, int n) {
        return way == 0 ? x.read(s, n) : x.write(s, n, 1000 * s);
    }

    /** Dispatches, and looks at the answer, at latest and at batch. */
    private static void next(DeadlineElevator x, int parts, int latest, int batch) {
        check.due("dispatch of " + latest, x.dispatch(), parts);
        check.due("latest", x.latest(), latest);
        check.due("batch after " + latest, x.batch(), batch);
    }

    /** "0 when none waits." */
    private static void noneWaitsInANewObject() {
        DeadlineElevator x = new DeadlineElevator();
        check.due("dispatch", x.dispatch(), 0);
        x.barrier();
        check.due("dispatch behind a barrier", x.dispatch(), 0);
        x.tick(1000);
        check.due("dispatch after a while", x.dispatch(), 0);
        x.read(64, 1);
        check.due("dispatch after a refused part", x.dispatch(), 0);
        check.due("latest", x.latest(), NONE);
        check.due("head", x.head(), 0);
        check.due("batch", x.batch(), 0);
        check.due("now", x.now(), 1000);
    }

    /** "0 when none waits": nothing changes then, the batch too goes on later. */
    private static void noneWaitsWhenAllAreDone() {
        DeadlineElevator x = new DeadlineElevator();
        x.write(10, 2, 1);
        x.write(30, 2, 1);
        next(x, 1, 0, 6);
        next(x, 1, 1, 7);
        for (int i = 0; i < 5; i++) {
            check.due("dispatch", x.dispatch(), 0);
            check.due("latest", x.latest(), 1);
            check.due("head", x.head(), 32);
            check.due("batch", x.batch(), 7);
        }
        x.read(40, 1);
        x.write(32, 1, 1);
        next(x, 1, 3, 8);
    }

    /** "Answers how many parts it has": "A REQUEST has one to four parts". */
    private static void fromOneToFourParts() {
        for (int way = 0; way <= 1; way++) {
            for (int parts = 1; parts <= 4; parts++) {
                DeadlineElevator x = new DeadlineElevator();
                for (int i = 0; i < parts; i++) {
                    come(x, way, 40 - 4 * i, 4);
                }
                next(x, parts, 0, 1 + 5 * way);
                check.due("head", x.head(), 44);
                for (int i = 0; i < parts; i++) {
                    check.due("all its parts are done", x.state(i), 2);
                }
                check.due("dispatch", x.dispatch(), 0);
            }
        }
    }

    /** "all its parts are DONE": not those of another request, though they lie between by number. */
    private static void onlyItsOwnParts() {
        DeadlineElevator x = new DeadlineElevator();
        x.write(40, 1, 400);
        x.write(10, 1, 100);
        x.write(41, 1, 410);
        x.write(11, 1, 110);
        next(x, 2, 1, 6);
        int[] states = {1, 2, 1, 2};
        for (int part = 0; part < states.length; part++) {
            check.due("state(" + part + ")", x.state(part), states[part]);
        }
        check.due("sector(40)", x.sector(40), 0);
        check.due("sector(41)", x.sector(41), 0);
    }

    /** "all its parts are DONE": once, and not again with a request between them by number. */
    private static void noPartIsDoneTwice() {
        DeadlineElevator x = new DeadlineElevator();
        for (int i = 0; i < 3; i++) {
            x.write(2 * i, 1, i);
        }
        x.write(10, 1, 100);
        x.write(20, 1, 200);
        x.write(11, 1, 110);
        next(x, 1, 0, 6);
        next(x, 1, 1, 7);
        next(x, 1, 2, 8);
        next(x, 2, 3, 9);
        check.due("sector(11)", x.sector(11), 110);
        x.write(11, 1, 7);
        x.read(62, 1);
        next(x, 1, 7, 11);
        next(x, 1, 6, 6);
        check.due("sector(11)", x.sector(11), 7);
        next(x, 1, 4, 7);
        check.due("sector(11) stays", x.sector(11), 7);
    }

    /** "The request picked waits no longer": the queue is emptied one by one. */
    private static void allOfTwentyFour() {
        DeadlineElevator x = new DeadlineElevator();
        for (int i = 0; i < 24; i++) {
            x.write(50, 3, 100 * i);
        }
        for (int i = 0; i < 24; i++) {
            check.due("waiting(1)", x.waiting(1), 24 - i);
            check.due("ready(1)", x.ready(1), 1);
            next(x, 1, i, 6);
            check.due("sector(52)", x.sector(52), 100 * i + 2);
        }
        check.due("waiting(1)", x.waiting(1), 0);
        check.due("ready(1)", x.ready(1), 0);
        check.due("dispatch", x.dispatch(), 0);
    }

    /** "If the count is 1 .. 3": a batch has four at most. */
    private static void theCountGoesFromOneToFour(int way) {
        DeadlineElevator x = new DeadlineElevator();
        for (int i = 0; i < 9; i++) {
            come(x, way, 5 * i, 1);
        }
        for (int i = 0; i < 9; i++) {
            next(x, 1, i, 5 * way + 1 + i % 4);
        }
    }

    /** "a start not below the head": one at the head itself. */
    private static void aBatchGoesOnFromTheHeadOn(int way) {
        DeadlineElevator x = new DeadlineElevator();
        come(x, way, 20, 4);
        next(x, 1, 0, 5 * way + 1);
        come(x, way, 24, 1);
        come(x, 1 - way, 40, 1);
        next(x, 1, 1, 5 * way + 2);
    }

    /** "a start not below the head": one that is below it by 1 is none. */
    private static void aBatchDoesNotGoOnBelowTheHead(int way) {
        DeadlineElevator x = new DeadlineElevator();
        come(x, way, 20, 4);
        next(x, 1, 0, 5 * way + 1);
        come(x, way, 23, 8);
        next(x, 1, 1, 5 * way + 1);
        check.due("head", x.head(), 31);
    }

    /** "of these the one with the least start" */
    private static void aBatchTakesTheLeastStartAhead(int way) {
        DeadlineElevator x = new DeadlineElevator();
        come(x, way, 20, 4);
        next(x, 1, 0, 5 * way + 1);
        come(x, way, 63, 1);
        come(x, way, 26, 1);
        come(x, way, 0, 1);
        come(x, way, 28, 1);
        come(x, way, 22, 1);
        next(x, 1, 2, 5 * way + 2);
        next(x, 1, 4, 5 * way + 3);
        next(x, 1, 1, 5 * way + 4);
        next(x, 1, 3, 5 * way + 1);
        next(x, 1, 5, 5 * way + 2);
    }

    /** "of several the least number; the count is 1 more." Only reading has several ready at a start. */
    private static void aBatchTakesTheLeastNumberOfEqualStarts() {
        DeadlineElevator x = new DeadlineElevator();
        x.read(10, 1);
        next(x, 1, 0, 1);
        x.read(30, 1);
        x.read(20, 3);
        x.read(20, 1);
        x.read(20, 2);
        next(x, 1, 2, 2);
        next(x, 1, 1, 3);
        x.read(0, 1);
        next(x, 1, 5, 1);
        next(x, 1, 3, 2);
    }

    /** "its start may change": the start that it has now is not below the head, or is. */
    private static void aStartThatChangedCounts(int way) {
        DeadlineElevator x = new DeadlineElevator();
        come(x, way, 20, 4);
        next(x, 1, 0, 5 * way + 1);
        come(x, way, 24, 2);
        come(x, way, 23, 1);
        check.due("start", x.about(1, 0), 23);
        next(x, 2, 1, 5 * way + 1);
        come(x, way, 40, 2);
        come(x, way, 30, 2);
        come(x, way, 28, 2);
        come(x, way, 26, 2);
        next(x, 3, 4, 5 * way + 2);
        check.due("head", x.head(), 32);
    }

    /** "there is a ready request of the batch's way": one that only waits is none. */
    private static void aBatchGoesOnWithReadyOnesOnly(int way) {
        DeadlineElevator x = new DeadlineElevator();
        come(x, way, 10, 1);
        next(x, 1, 0, 5 * way + 1);
        come(x, 1 - way, 30, 2);
        come(x, way, 31, 1);
        check.due("it waits", x.waiting(way), 1);
        check.due("it is not ready", x.ready(way), 0);
        next(x, 1, 1, 5 * (1 - way) + 1);
        next(x, 1, 2, 5 * way + 1);
        x.barrier();
        come(x, way, 40, 1);
        x.barrier();
        come(x, way, 50, 1);
        next(x, 1, 3, 5 * way + 2);
        next(x, 1, 4, 5 * way + 3);
    }

    /** "have a deadline that is not after the present time" */
    private static void aDeadlineAtThePresentTime(int way) {
        int expiry = way == 0 ? 50 : 500;
        for (int late = -1; late <= 1; late++) {
            DeadlineElevator x = new DeadlineElevator();
            come(x, way, 40, 1);
            x.tick(10);
            come(x, way, 20, 1);
            x.tick(expiry - 10 + late);
            check.due("deadline", x.about(0, 2), expiry);
            check.due("now", x.now(), expiry + late);
            next(x, 1, late < 0 ? 1 : 0, 5 * way + 1);
        }
    }

    /** "the one with the least deadline": neither the least start nor the least number. */
    private static void theLeastDeadline(int way) {
        DeadlineElevator x = new DeadlineElevator();
        for (int i = 0; i < 3; i++) {
            come(x, way, 60 - 20 * i, 1);
            x.tick(1);
        }
        x.tick(1000);
        next(x, 1, 0, 5 * way + 1);
        next(x, 1, 1, 5 * way + 1);
        next(x, 1, 2, 5 * way + 1);
    }

    /** "of several the least number, is picked." */
    private static void theLeastNumberOfEqualDeadlines(int way) {
        DeadlineElevator x = new DeadlineElevator();
        come(x, way, 60, 1);
        come(x, way, 20, 1);
        come(x, way, 0, 1);
        x.tick(500);
        next(x, 1, 0, 5 * way + 1);
        next(x, 1, 1, 5 * way + 1);
        come(x, way, 21, 1);
        next(x, 1, 3, 5 * way + 2);
        next(x, 1, 2, 5 * way + 1);
    }

    /** "If ready requests of this way have a deadline that ..": an expired one that only waits is none. */
    private static void deadlinesOfReadyOnesOnly(int way) {
        DeadlineElevator x = new DeadlineElevator();
        come(x, 1 - way, 10, 1);
        come(x, way, 10, 1);
        x.tick(1000);
        come(x, way, 30, 1);
        come(x, way, 20, 1);
        check.due("ready", x.ready(way), 2);
        if (way == 0) {
            next(x, 1, 3, 11);
            next(x, 1, 2, 12);
            next(x, 1, 0, 6);
            next(x, 1, 1, 1);
        } else {
            next(x, 1, 0, 11);
            next(x, 1, 1, 6);
        }
    }

    /** "Otherwise that with the least start not below the head" */
    private static void aNewBatchBeginsFromTheHeadOn(int way) {
        for (int s = 23; s <= 25; s++) {
            DeadlineElevator x = new DeadlineElevator();
            // A batch of the other way brings the head to 24, so that a new one must begin.
            come(x, 1 - way, 20, 4);
            next(x, 1, 0, 5 * (1 - way) + 1);
            check.due("head", x.head(), 24);
            come(x, way, 5, 1);
            come(x, way, 40, 1);
            come(x, way, s, 1);
            next(x, 1, s < 24 ? 2 : 3, 5 * way + 1);
        }
    }

    /** "or, if there is none, that with the least start" */
    private static void aNewBatchGoesAround(int way) {
        DeadlineElevator x = new DeadlineElevator();
        come(x, way, 60, 4);
        next(x, 1, 0, 5 * way + 1);
        check.due("head", x.head(), 64);
        come(x, way, 63, 1);
        come(x, way, 10, 1);
        come(x, way, 0, 1);
        come(x, way, 5, 1);
        next(x, 1, 3, 5 * way + 1);
        next(x, 1, 4, 5 * way + 2);
        next(x, 1, 2, 5 * way + 3);
        next(x, 1, 1, 5 * way + 4);
    }

    /** "of several the least number.", ahead and when it goes around; only reading has several. */
    private static void aNewBatchTakesTheLeastNumberOfEqualStarts() {
        DeadlineElevator x = new DeadlineElevator();
        x.read(40, 1);
        x.read(20, 3);
        x.read(20, 1);
        x.read(20, 2);
        next(x, 1, 1, 1);
        next(x, 1, 0, 2);
        next(x, 1, 2, 1);
        next(x, 1, 3, 1);
    }

    /** "one of them is not 0 .. 10000": with the expiry 0 each is late at once. */
    private static void expiryZero(int way) {
        DeadlineElevator x = new DeadlineElevator();
        x.expire(0, 0);
        come(x, way, 40, 1);
        come(x, way, 20, 1);
        check.due("deadline", x.about(0, 2), 0);
        next(x, 1, 0, 5 * way + 1);
        DeadlineElevator y = new DeadlineElevator();
        y.expire(1, 1);
        come(y, way, 40, 1);
        come(y, way, 20, 1);
        next(y, 1, 1, 5 * way + 1);
    }

    /** "a BATCH has a way and a COUNT, at first 0": the first dispatch begins one. */
    private static void aCountOfZeroBeginsABatch() {
        DeadlineElevator x = new DeadlineElevator();
        x.write(10, 1, 1);
        x.read(40, 1);
        x.tick(10);
        x.read(20, 1);
        x.tick(40);
        next(x, 1, 1, 11);
    }

    /** "ready requests of this way": one of the other way is not picked, however late. */
    private static void deadlinesOfTheOtherWayDoNotCount() {
        DeadlineElevator x = new DeadlineElevator();
        x.write(10, 1, 1);
        x.tick(100000);
        x.read(40, 1);
        x.read(20, 1);
        next(x, 1, 2, 11);
        next(x, 1, 1, 12);
        next(x, 1, 0, 6);
    }

    /** "reading, when a reading request is ready, and no writing one is ..": one that waits is not. */
    private static void readingWhenNoWritingIsReady() {
        DeadlineElevator x = new DeadlineElevator();
        for (int i = 0; i < 5; i++) {
            x.read(40 - i, 1 + i);
        }
        x.write(40, 1, 1);
        check.due("ready(0)", x.ready(0), 5);
        check.due("waiting(1)", x.waiting(1), 1);
        check.due("ready(1)", x.ready(1), 0);
        next(x, 1, 4, 1);
        next(x, 1, 3, 1);
        next(x, 1, 2, 1);
        next(x, 1, 1, 1);
        next(x, 1, 0, 1);
        next(x, 1, 5, 6);
    }

    /** "Else it is writing, and starved becomes 0." */
    private static void writingWhenNoReadingIsReady() {
        DeadlineElevator x = new DeadlineElevator();
        x.write(10, 1, 1);
        x.read(10, 1);
        check.due("waiting(0)", x.waiting(0), 1);
        check.due("ready(0)", x.ready(0), 0);
        next(x, 1, 0, 6);
        next(x, 1, 1, 1);
        x.barrier();
        x.write(40, 1, 1);
        x.barrier();
        x.read(50, 1);
        next(x, 1, 2, 6);
        next(x, 1, 3, 1);
    }

    /** "starved is less than 2; then starved becomes 1 more if a writing one is ready." */
    private static void starvedFromZeroToTwo() {
        DeadlineElevator x = new DeadlineElevator();
        x.write(0, 1, 1);
        x.read(60, 1);
        next(x, 1, 1, 11);
        x.read(50, 1);
        next(x, 1, 2, 21);
        x.read(55, 1);
        next(x, 1, 3, 22);
        x.read(40, 1);
        next(x, 1, 0, 6);
        next(x, 1, 4, 1);
        x.write(63, 1, 1);
        x.read(30, 1);
        next(x, 1, 6, 11);
        x.read(20, 1);
        next(x, 1, 7, 21);
        x.read(10, 1);
        next(x, 1, 5, 6);
        next(x, 1, 8, 1);
    }

    /** "starved becomes 0", from 1 too. */
    private static void starvedEndsAtZeroWithoutReading() {
        DeadlineElevator x = new DeadlineElevator();
        x.write(10, 1, 1);
        x.read(40, 1);
        next(x, 1, 1, 11);
        next(x, 1, 0, 6);
        x.read(5, 1);
        next(x, 1, 2, 1);
    }

    /** "NONE when none was." */
    private static void latestIsNoneUntilOneWasDispatched() {
        DeadlineElevator x = new DeadlineElevator();
        check.due("latest of a new one", x.latest(), NONE);
        x.read(10, 1);
        x.write(20, 1, 1);
        check.due("latest while two wait", x.latest(), NONE);
        x.barrier();
        x.tick(1000);
        check.due("latest after a while", x.latest(), NONE);
        x.dispatch();
        check.due("latest", x.latest(), 0);
    }

    /** "The number of the request that was dispatched last", that of its first part. */
    private static void latestMayBeTheFirstNumber() {
        DeadlineElevator x = new DeadlineElevator();
        x.read(30, 1);
        x.read(10, 1);
        x.read(29, 1);
        next(x, 1, 1, 1);
        next(x, 2, 0, 2);
        check.due("dispatch", x.dispatch(), 0);
        check.due("latest stays", x.latest(), 0);
    }

    /** "HEAD is 0 at first, then the sector behind the request dispatched last" */
    private static void theHeadAtTheEndsOfTheDisk() {
        DeadlineElevator x = new DeadlineElevator();
        check.due("head of a new one", x.head(), 0);
        x.read(0, 1);
        x.dispatch();
        check.due("head behind sector 0", x.head(), 1);
        x.write(63, 1, 1);
        x.dispatch();
        check.due("head behind sector 63", x.head(), 64);
        x.read(0, 8);
        x.dispatch();
        check.due("head behind sector 7", x.head(), 8);
        x.read(56, 8);
        x.dispatch();
        check.due("head behind sector 63", x.head(), 64);
        check.due("dispatch", x.dispatch(), 0);
        check.due("head stays", x.head(), 64);
    }

    /** "the head is start plus length": of the whole request, not of its first or last part. */
    private static void theHeadBehindTheLongestRequest() {
        DeadlineElevator x = new DeadlineElevator();
        x.write(56, 8, 1);
        x.write(48, 8, 1);
        x.dispatch();
        check.due("head", x.head(), 64);
        x.write(0, 8, 1);
        x.write(8, 8, 1);
        x.dispatch();
        check.due("head", x.head(), 16);
    }

    /** "(way 0 while the count is 0)" */
    private static void theBatchBeforeTheFirstDispatch() {
        DeadlineElevator x = new DeadlineElevator();
        check.due("batch of a new one", x.batch(), 0);
        x.write(10, 1, 1);
        check.due("batch while a writing one waits", x.batch(), 0);
        x.dispatch();
        check.due("batch", x.batch(), 6);
        x.dispatch();
        check.due("batch while none waits", x.batch(), 6);
    }

    /** "10 * starved + 5 * way + count": from 0 to 24. */
    private static void theLeastAndTheGreatestBatch() {
        DeadlineElevator x = new DeadlineElevator();
        x.write(0, 1, 1);
        for (int i = 0; i < 8; i++) {
            x.read(4 + 4 * i, 1);
        }
        int[] due = {11, 12, 13, 14, 21, 22, 23, 24};
        for (int i = 0; i < 8; i++) {
            next(x, 1, i + 1, due[i]);
        }
        for (int i = 0; i < 4; i++) {
            x.write(40 + 2 * i, 1, 1);
        }
        for (int i = 0; i < 4; i++) {
            next(x, 1, 9 + i, 6 + i);
        }
        x.read(20, 1);
        next(x, 1, 13, 11);
    }
}
