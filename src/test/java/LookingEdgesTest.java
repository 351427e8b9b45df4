/**
 * The boundary cases of promises 8 to 14, and of what the terms say of ready requests. Each method
 * stands for the sentence of the document above it.
 */
public final class LookingEdgesTest {
    private static final int NONE = DeadlineElevator.NONE;
    private static final int MIN = Integer.MIN_VALUE;
    private static final int MAX = Integer.MAX_VALUE;
    private static final int[] NO_WAYS = {-1, -2, 2, 3, 4, 10, MIN, MIN + 1, MAX - 1, MAX};

    private static final Check check = new Check();

    public static void main(String[] args) {
        noSuchPartInANewObject();
        noSuchPartBesideThoseThatCame();
        noSuchPartBesideTwoHundred();
        stateOfOneThatWaitsAndIsDone();
        noValueOfAWrite();
        noValueBeforeItIsDone();
        noValueNotBelowItsN();
        noValueBelowTheFirst();
        valuesOfEachPartOfARequest();
        valuesStayAsTheyWere();
        valuesOfTheLastPart();
        sectorsOnAndAroundTheDisk();
        noSuchWay();
        noneOfAWay();
        requestsOfAWayNotParts();
        readyUpToTwentyFour();
        readyWhenNoLesserGroupWaits();
        readyBehindALesserNumberOnly();
        readyByEachPart();
        requestOfWhatDoesNotWait();
        aboutWhatDoesNotWait();
        aboutNothingThatThereIs();
        aboutTheLeastAndTheGreatest();
        check.end();
    }

    private static void nowhere(DeadlineElevator x, int part) {
        check.due("state(" + part + ")", x.state(part), 0);
        check.due("value(" + part + ", 0)", x.value(part, 0), 0);
        check.due("requestOf(" + part + ")", x.requestOf(part), NONE);
        for (int what = 0; what <= 4; what++) {
            check.due("about(" + part + ", " + what + ")", x.about(part, what), NONE);
        }
    }

    /** "0 when there is no such part.", before the first came. */
    private static void noSuchPartInANewObject() {
        DeadlineElevator x = new DeadlineElevator();
        for (int part : new int[] {0, 1, -1, 199, 200, 201, MIN, MAX}) {
            nowhere(x, part);
        }
    }

    /** "0 when there is no such part.", beside parts with values that are not 0. */
    private static void noSuchPartBesideThoseThatCame() {
        DeadlineElevator x = new DeadlineElevator();
        x.write(0, 8, 100);
        x.dispatch();
        x.read(0, 8);
        x.dispatch();
        x.read(0, 8);
        for (int part : new int[] {-1, -2, 3, 4, 24, 199, 200, 201, MIN, MIN + 1, MAX}) {
            nowhere(x, part);
        }
        x.read(64, 1);
        nowhere(x, 3);
    }

    /** "0 when there is no such part.", when all 200 came. */
    private static void noSuchPartBesideTwoHundred() {
        DeadlineElevator x = new DeadlineElevator();
        for (int i = 0; i < 200; i++) {
            x.read(0, 1);
            if (i < 190) {
                x.dispatch();
            }
        }
        check.due("state(0)", x.state(0), 2);
        check.due("state(189)", x.state(189), 2);
        check.due("state(190)", x.state(190), 1);
        check.due("state(199)", x.state(199), 1);
        check.due("requestOf(199)", x.requestOf(199), 199);
        for (int part : new int[] {200, 201, 256, -1, MAX}) {
            nowhere(x, part);
        }
    }

    /** "1 when the part waits, 2 when it is done" */
    private static void stateOfOneThatWaitsAndIsDone() {
        for (int way = 0; way <= 1; way++) {
            DeadlineElevator x = new DeadlineElevator();
            check.due("state before it comes", x.state(0), 0);
            int part = way == 0 ? x.read(10, 1) : x.write(10, 1, 1);
            check.due("state of one that came", x.state(part), 1);
            x.tick(1000);
            x.barrier();
            check.due("state of one that is late", x.state(part), 1);
            x.dispatch();
            check.due("state of one that is done", x.state(part), 2);
            x.dispatch();
            check.due("done it stays", x.state(part), 2);
        }
    }

    /** "0 when .. it writes" */
    private static void noValueOfAWrite() {
        DeadlineElevator x = new DeadlineElevator();
        x.write(10, 8, 100);
        for (int round = 0; round <= 1; round++) {
            for (int i = -1; i <= 8; i++) {
                check.due("value(0, " + i + ") of a write", x.value(0, i), 0);
            }
            x.dispatch();
        }
        check.due("sector(10)", x.sector(10), 100);
    }

    /** "0 when .. is not done" */
    private static void noValueBeforeItIsDone() {
        DeadlineElevator x = new DeadlineElevator();
        x.write(10, 8, 100);
        x.dispatch();
        x.read(10, 8);
        for (int i = 0; i < 8; i++) {
            check.due("value(1, " + i + ") while it waits", x.value(1, i), 0);
        }
        x.dispatch();
        for (int i = 0; i < 8; i++) {
            check.due("value(1, " + i + ") when it is done", x.value(1, i), 100 + i);
        }
    }

    /** "0 when .. i is not below its n." */
    private static void noValueNotBelowItsN() {
        for (int n = 1; n <= 8; n++) {
            DeadlineElevator x = aDiskOfNumbers();
            x.read(30, n);
            x.read(30 + n, 8);
            check.due("they are one request", x.dispatch(), 2);
            check.due("the last value of " + n, x.value(4, n - 1), 30 + n);
            for (int i = n; i <= 20; i++) {
                check.due("value " + i + " of " + n, x.value(4, i), 0);
            }
            for (int i : new int[] {64, 200, 1600, MAX - 31, MAX - 1, MAX}) {
                check.due("value " + i + " of " + n, x.value(4, i), 0);
            }
        }
    }

    /** "The i-th value, from 0" */
    private static void noValueBelowTheFirst() {
        DeadlineElevator x = aDiskOfNumbers();
        x.read(20, 8);
        x.read(28, 8);
        x.dispatch();
        check.due("value(5, 0)", x.value(5, 0), 29);
        check.due("value(4, 7)", x.value(4, 7), 28);
        for (int i : new int[] {-1, -2, -7, -8, -9, -40, MIN, MIN + 1}) {
            check.due("value(5, " + i + ")", x.value(5, i), 0);
            check.due("value(4, " + i + ")", x.value(4, i), 0);
        }
    }

    /** The sectors 16 .. 47 hold 17 .. 48, by the parts 0 .. 3. */
    private static DeadlineElevator aDiskOfNumbers() {
        DeadlineElevator x = new DeadlineElevator();
        for (int s = 16; s < 48; s += 8) {
            x.write(s, 8, s + 1);
        }
        x.dispatch();
        x.dispatch();
        return x;
    }

    /** "The i-th value, from 0, that the part has read": each part from its own start on. */
    private static void valuesOfEachPartOfARequest() {
        DeadlineElevator x = aDiskOfNumbers();
        x.read(24, 2);
        x.read(22, 2);
        x.read(26, 1);
        x.read(14, 8);
        check.due("dispatch", x.dispatch(), 4);
        int[][] want = {{25, 26}, {23, 24}, {27}, {0, 0, 17, 18, 19, 20, 21, 22}};
        for (int part = 0; part < want.length; part++) {
            for (int i = 0; i < want[part].length; i++) {
                check.due("value " + i + " of " + part, x.value(4 + part, i), want[part][i]);
            }
        }
    }

    /** "(as it was when it was done;)" */
    private static void valuesStayAsTheyWere() {
        DeadlineElevator x = aDiskOfNumbers();
        x.read(16, 1);
        x.write(16, 1, 5);
        x.dispatch();
        x.dispatch();
        x.read(16, 1);
        x.dispatch();
        check.due("sector(16)", x.sector(16), 5);
        check.due("value before the write", x.value(4, 0), 17);
        check.due("value behind the write", x.value(6, 0), 5);
    }

    /** The values of part 199, the last that comes. */
    private static void valuesOfTheLastPart() {
        DeadlineElevator x = new DeadlineElevator();
        x.write(56, 8, 100);
        x.dispatch();
        for (int i = 1; i < 199; i++) {
            x.read(0, 1);
            x.dispatch();
        }
        check.due("the last part", x.read(56, 8), 199);
        x.dispatch();
        for (int i = -1; i <= 9; i++) {
            boolean there = i >= 0 && i < 8;
            check.due("value(199, " + i + ")", x.value(199, i), there ? 100 + i : 0);
        }
    }

    /** "The sector's value now; 0 when sector is not 0 .. 63." */
    private static void sectorsOnAndAroundTheDisk() {
        DeadlineElevator x = new DeadlineElevator();
        for (int s = 0; s < 64; s += 8) {
            x.write(s, 8, 100 + s);
        }
        check.due("now means before it is done, too", x.sector(0), 0);
        for (int i = 0; i < 4; i++) {
            x.dispatch();
        }
        for (int sector = -70; sector <= 140; sector++) {
            boolean there = sector >= 0 && sector <= 63;
            check.due("sector(" + sector + ")", x.sector(sector), there ? 100 + sector : 0);
        }
        for (int sector : new int[] {MIN, MIN + 1, MAX - 1, MAX}) {
            check.due("sector(" + sector + ")", x.sector(sector), 0);
        }
    }

    /** "NONE when way is not 0 or 1.", of waiting and of ready. */
    private static void noSuchWay() {
        DeadlineElevator x = new DeadlineElevator();
        for (int round = 0; round <= 1; round++) {
            for (int way : NO_WAYS) {
                check.due("waiting(" + way + ")", x.waiting(way), NONE);
                check.due("ready(" + way + ")", x.ready(way), NONE);
            }
            x.read(10, 1);
            x.write(20, 1, 1);
        }
    }

    /** "How many requests of that way wait": 0 when there is none. */
    private static void noneOfAWay() {
        for (int way = 0; way <= 1; way++) {
            DeadlineElevator x = new DeadlineElevator();
            check.due("waiting in a new one", x.waiting(way), 0);
            check.due("ready in a new one", x.ready(way), 0);
            int part = way == 0 ? x.write(10, 1, 1) : x.read(10, 1);
            check.due("waiting beside the other way", x.waiting(way), 0);
            check.due("ready beside the other way", x.ready(way), 0);
            check.due("waiting of the other way", x.waiting(1 - way), 1);
            check.due("ready of the other way", x.ready(1 - way), 1);
            x.dispatch();
            check.due("state", x.state(part), 2);
            check.due("waiting when it is done", x.waiting(1 - way), 0);
            check.due("ready when it is done", x.ready(1 - way), 0);
        }
    }

    /** "How many requests .. wait", not how many parts. */
    private static void requestsOfAWayNotParts() {
        DeadlineElevator x = new DeadlineElevator();
        for (int i = 0; i < 4; i++) {
            x.read(10 + i, 1);
            x.write(30 + i, 1, 1);
            check.due("waiting(0)", x.waiting(0), 1);
            check.due("waiting(1)", x.waiting(1), 1);
            check.due("ready(0)", x.ready(0), 1);
            check.due("ready(1)", x.ready(1), 1);
        }
        x.read(14, 1);
        x.write(34, 1, 1);
        check.due("waiting(0)", x.waiting(0), 2);
        check.due("waiting(1)", x.waiting(1), 2);
    }

    /** "How many waiting requests of that way are ready": all, or one of 24. */
    private static void readyUpToTwentyFour() {
        DeadlineElevator reads = new DeadlineElevator();
        DeadlineElevator writes = new DeadlineElevator();
        for (int i = 1; i <= 24; i++) {
            reads.read(10, 8);
            writes.write(10, 8, i);
            check.due("ready(0)", reads.ready(0), i);
            check.due("ready(1)", writes.ready(1), 1);
            check.due("waiting(1)", writes.waiting(1), i);
        }
        reads.write(0, 1, 1);
        check.due("ready(0) when full", reads.ready(0), 24);
        check.due("ready(1) when full", reads.ready(1), 0);
    }

    /** "READY when no request of a lesser group waits" */
    private static void readyWhenNoLesserGroupWaits() {
        DeadlineElevator x = new DeadlineElevator();
        x.read(0, 1);
        x.read(10, 1);
        x.barrier();
        x.barrier();
        x.write(20, 1, 1);
        x.barrier();
        x.read(30, 1);
        int[][] want = {{2, 0}, {1, 0}, {0, 1}, {1, 0}, {0, 0}};
        for (int[] ready : want) {
            check.due("ready(0)", x.ready(0), ready[0]);
            check.due("ready(1)", x.ready(1), ready[1]);
            x.dispatch();
        }
    }

    /** "no part of another waiting request conflicts with a part of it that has a greater number." */
    private static void readyBehindALesserNumberOnly() {
        for (int first = 0; first <= 1; first++) {
            for (int second = 0; second <= 1; second++) {
                DeadlineElevator x = new DeadlineElevator();
                come(x, first, 10, 2);
                come(x, second, 11, 2);
                boolean conflict = first + second > 0;
                check.due("ready of both", x.ready(0) + x.ready(1), conflict ? 1 : 2);
                x.dispatch();
                check.due("the first one is ready", x.latest(), 0);
                check.due("then the second is", x.ready(second), 1);
            }
        }
    }

    /** "no part of another ..": every part of the other counts, and by its own number. */
    private static void readyByEachPart() {
        for (int s = 9; s <= 14; s++) {
            DeadlineElevator x = new DeadlineElevator();
            x.write(10, 2, 1);
            x.write(12, 2, 1);
            check.due("they are one request", x.waiting(1), 1);
            x.read(s, 1);
            check.due("ready(0) for sector " + s, x.ready(0), s == 9 || s == 14 ? 1 : 0);
            check.due("ready(1)", x.ready(1), 1);
        }
        // The request 1 has a part that came behind the write, but not the one that conflicts.
        DeadlineElevator y = new DeadlineElevator();
        y.read(40, 1);
        y.read(10, 2);
        y.write(11, 1, 1);
        y.read(12, 1);
        check.due("it joined", y.requestOf(3), 1);
        check.due("ready(0)", y.ready(0), 2);
        check.due("ready(1)", y.ready(1), 0);
    }

    private static void come(DeadlineElevator x, int way, int s, int n) {
        check.due("it came", (way == 0 ? x.read(s, n) : x.write(s, n, 1)) >= 0, true);
    }

    /** "NONE when it does not wait.", of requestOf. */
    private static void requestOfWhatDoesNotWait() {
        DeadlineElevator x = new DeadlineElevator();
        check.due("requestOf(0) before it comes", x.requestOf(0), NONE);
        x.write(10, 1, 1);
        x.write(11, 1, 1);
        x.write(9, 1, 1);
        for (int part = 0; part < 3; part++) {
            check.due("requestOf(" + part + ")", x.requestOf(part), 0);
        }
        check.due("requestOf(3)", x.requestOf(3), NONE);
        x.dispatch();
        for (int part = -1; part <= 3; part++) {
            check.due("requestOf(" + part + ") when done", x.requestOf(part), NONE);
        }
    }

    /** "NONE when the part does not wait" */
    private static void aboutWhatDoesNotWait() {
        DeadlineElevator x = new DeadlineElevator();
        x.write(10, 1, 1);
        x.write(11, 1, 1);
        x.dispatch();
        for (int part = -1; part <= 2; part++) {
            for (int what = -1; what <= 5; what++) {
                check.due("about(" + part + ", " + what + ")", x.about(part, what), NONE);
            }
        }
    }

    /** "NONE when .. what is not 0 .. 4." */
    private static void aboutNothingThatThereIs() {
        DeadlineElevator x = new DeadlineElevator();
        x.barrier();
        x.write(10, 2, 1);
        for (int what : new int[] {-1, -2, -5, MIN, MIN + 4, 5, 6, 10, 256, MAX}) {
            check.due("about(0, " + what + ")", x.about(0, what), NONE);
        }
        check.due("about(0, 0)", x.about(0, 0), 10);
        check.due("about(0, 4)", x.about(0, 4), 1);
    }

    /** "its start for what = 0, its length for 1, its deadline for 2, its group for 3, its way for 4" */
    private static void aboutTheLeastAndTheGreatest() {
        DeadlineElevator least = new DeadlineElevator();
        least.expire(0, 0);
        least.read(0, 1);
        int[] wantLeast = {0, 1, 0, 0, 0};
        DeadlineElevator greatest = new DeadlineElevator();
        greatest.expire(10000, 10000);
        greatest.tick(100000);
        greatest.barrier();
        greatest.write(56, 8, 1);
        greatest.write(48, 8, 1);
        int[] wantGreatest = {48, 16, 110000, 1, 1};
        for (int what = 0; what <= 4; what++) {
            check.due("the least about(0, " + what + ")", least.about(0, what), wantLeast[what]);
            check.due("the greatest about(1, " + what + ")", greatest.about(1, what), wantGreatest[what]);
        }
    }
}
