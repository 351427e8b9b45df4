/**
 * The boundary cases of what the terms say of requests, of conflicts and of joining. Each method
 * stands for the sentence of the document above it.
 */
public final class JoiningEdgesTest {
    private static final Check check = new Check();

    public static void main(String[] args) {
        for (int way = 0; way <= 1; way++) {
            directlyInFront(way);
            directlyBehind(way);
            atTheEndsOfTheDisk(way);
            fourPartsAtMost(way);
            sixteenSectorsAtMost(way);
            inFrontComesFirst(way);
            withoutRoomIsNoNeighbour(way);
            twoRequestsStayTwo(way);
            onlyOfThePresentGroup(way);
            onlyOfItsWay(way);
            onlyWhatWaits(way);
            numberAndDeadlineStay(way);
        }
        ofSeveralTheLeastNumber();
        aConflictAnywhereForbidsJoining();
        aConflictWithADonePartForbidsNothing();
        readingTwiceIsNoConflict();
        oneMayJoinWhatIsNotReady();
        conflictsSectorBySector();
        check.end();
    }

    private static int come(DeadlineElevator x, int way, int s, int n) {
        return way == 0 ? x.read(s, n) : x.write(s, n, 1000 * s);
    }

    private static void request(DeadlineElevator x, int part, int number, int start, int length) {
        check.due("requestOf(" + part + ")", x.requestOf(part), number);
        check.due("start for " + part, x.about(part, 0), start);
        check.due("length for " + part, x.about(part, 1), length);
    }

    /** "it JOINS the one that ends directly in front of it" */
    private static void directlyInFront(int way) {
        for (int s = 12; s <= 14; s++) {
            DeadlineElevator x = new DeadlineElevator();
            x.tick(5);
            come(x, way, 10, 3);
            come(x, way, s, 2);
            if (s == 13) {
                request(x, 1, 0, 10, 5);
            } else {
                request(x, 1, 1, s, 2);
            }
        }
    }

    /** "or, if there is none, the one that begins directly behind it" */
    private static void directlyBehind(int way) {
        for (int s = 7; s <= 9; s++) {
            DeadlineElevator x = new DeadlineElevator();
            come(x, way, 10, 3);
            come(x, way, s, 2);
            if (s == 8) {
                request(x, 1, 0, 8, 5);
                request(x, 0, 0, 8, 5);
            } else {
                request(x, 1, 1, s, 2);
                request(x, 0, 0, 10, 3);
            }
        }
    }

    /** The disk does not go around: sector 0 does not lie behind sector 63. */
    private static void atTheEndsOfTheDisk(int way) {
        DeadlineElevator x = new DeadlineElevator();
        come(x, way, 63, 1);
        come(x, way, 0, 1);
        request(x, 1, 1, 0, 1);
        come(x, way, 55, 8);
        request(x, 2, 0, 55, 9);
        come(x, way, 1, 8);
        request(x, 3, 1, 0, 9);
        DeadlineElevator y = new DeadlineElevator();
        come(y, way, 0, 1);
        come(y, way, 63, 1);
        request(y, 1, 1, 63, 1);
    }

    /** "a waiting request .. with fewer than four parts" */
    private static void fourPartsAtMost(int way) {
        DeadlineElevator x = new DeadlineElevator();
        come(x, way, 30, 1);
        come(x, way, 31, 1);
        come(x, way, 29, 1);
        request(x, 2, 0, 29, 3);
        come(x, way, 32, 1);
        request(x, 3, 0, 29, 4);
        come(x, way, 33, 1);
        request(x, 4, 4, 33, 1);
        come(x, way, 28, 1);
        request(x, 5, 5, 28, 1);
        check.due("waiting", x.waiting(way), 3);
    }

    /** "which would have no more than 16 sectors together with it" */
    private static void sixteenSectorsAtMost(int way) {
        for (int n = 1; n <= 8; n++) {
            DeadlineElevator behind = new DeadlineElevator();
            come(behind, way, 20, 8);
            come(behind, way, 28, 3);
            come(behind, way, 31, n);
            DeadlineElevator front = new DeadlineElevator();
            come(front, way, 28, 8);
            come(front, way, 25, 3);
            come(front, way, 25 - n, n);
            if (n <= 5) {
                request(behind, 2, 0, 20, 11 + n);
                request(front, 2, 0, 25 - n, 11 + n);
            } else {
                request(behind, 2, 2, 31, n);
                request(front, 2, 2, 25 - n, n);
            }
        }
        DeadlineElevator x = new DeadlineElevator();
        come(x, way, 40, 8);
        come(x, way, 48, 8);
        request(x, 1, 0, 40, 16);
        come(x, way, 56, 1);
        request(x, 2, 2, 56, 1);
        come(x, way, 39, 1);
        request(x, 3, 3, 39, 1);
    }

    /** "the one that ends directly in front of it, or, if there is none, .. directly behind it" */
    private static void inFrontComesFirst(int way) {
        for (int order = 0; order <= 1; order++) {
            DeadlineElevator x = new DeadlineElevator();
            come(x, way, order == 0 ? 10 : 14, 2);
            come(x, way, order == 0 ? 14 : 10, 2);
            come(x, way, 12, 2);
            request(x, 2, order, 10, 4);
            request(x, 1 - order, 1 - order, 14, 2);
        }
    }

    /** "of several the one with the least number." Only reading has several at one place. */
    private static void ofSeveralTheLeastNumber() {
        DeadlineElevator front = new DeadlineElevator();
        front.read(10, 3);
        front.read(11, 2);
        front.read(12, 1);
        front.read(13, 1);
        request(front, 3, 0, 10, 4);
        front.read(13, 2);
        request(front, 4, 1, 11, 4);
        front.read(13, 3);
        request(front, 5, 2, 12, 4);
        front.read(13, 4);
        request(front, 6, 6, 13, 4);
        DeadlineElevator behind = new DeadlineElevator();
        behind.read(10, 3);
        behind.read(10, 2);
        behind.read(10, 1);
        behind.read(9, 1);
        request(behind, 3, 0, 9, 4);
        behind.read(8, 2);
        request(behind, 4, 1, 8, 4);
        behind.read(7, 3);
        request(behind, 5, 2, 7, 4);
        DeadlineElevator mixed = new DeadlineElevator();
        mixed.read(40, 2);
        mixed.read(40, 3);
        mixed.read(38, 1);
        mixed.read(39, 1);
        request(mixed, 3, 2, 38, 2);
    }

    /** One with four parts or too many sectors does not stand in the way of the next. */
    private static void withoutRoomIsNoNeighbour(int way) {
        DeadlineElevator parts = new DeadlineElevator();
        for (int i = 0; i < 4; i++) {
            come(parts, way, 10 + i, 1);
        }
        come(parts, way, 16, 2);
        come(parts, way, 14, 2);
        request(parts, 5, 4, 14, 4);
        request(parts, 0, 0, 10, 4);
        DeadlineElevator sectors = new DeadlineElevator();
        come(sectors, way, 10, 8);
        come(sectors, way, 18, 7);
        come(sectors, way, 27, 1);
        come(sectors, way, 25, 2);
        request(sectors, 3, 2, 25, 3);
        DeadlineElevator neither = new DeadlineElevator();
        come(neither, way, 10, 8);
        come(neither, way, 18, 7);
        come(neither, way, 27, 8);
        come(neither, way, 35, 7);
        come(neither, way, 25, 2);
        request(neither, 4, 4, 25, 2);
    }

    /** "it JOINS the one": what closes a gap does not make one request of two. */
    private static void twoRequestsStayTwo(int way) {
        DeadlineElevator x = new DeadlineElevator();
        come(x, way, 10, 1);
        come(x, way, 12, 1);
        come(x, way, 11, 1);
        request(x, 2, 0, 10, 2);
        request(x, 1, 1, 12, 1);
        check.due("waiting", x.waiting(way), 2);
        check.due("dispatch", x.dispatch(), 2);
        check.due("head", x.head(), 12);
        check.due("dispatch", x.dispatch(), 1);
        check.due("head", x.head(), 13);
    }

    /** "a waiting request .. of the present group" */
    private static void onlyOfThePresentGroup(int way) {
        DeadlineElevator x = new DeadlineElevator();
        come(x, way, 10, 2);
        x.barrier();
        come(x, way, 12, 2);
        request(x, 1, 1, 12, 2);
        come(x, way, 8, 2);
        request(x, 2, 2, 8, 2);
        come(x, way, 14, 1);
        request(x, 3, 1, 12, 3);
        x.barrier();
        come(x, way, 15, 1);
        request(x, 4, 4, 15, 1);
        check.due("its group", x.about(4, 3), 2);
    }

    /** "a waiting request of its way" */
    private static void onlyOfItsWay(int way) {
        DeadlineElevator x = new DeadlineElevator();
        come(x, 1 - way, 10, 2);
        come(x, way, 12, 2);
        request(x, 1, 1, 12, 2);
        come(x, way, 8, 2);
        request(x, 2, 2, 8, 2);
    }

    /** "there is a waiting request": one that was dispatched waits no longer. */
    private static void onlyWhatWaits(int way) {
        DeadlineElevator x = new DeadlineElevator();
        come(x, way, 10, 2);
        x.dispatch();
        come(x, way, 12, 2);
        request(x, 1, 1, 12, 2);
        come(x, way, 8, 2);
        request(x, 2, 2, 8, 2);
    }

    /** "(The request's number and deadline stay; its start may change.)" */
    private static void numberAndDeadlineStay(int way) {
        DeadlineElevator x = new DeadlineElevator();
        int deadline = 5 + (way == 0 ? 50 : 500);
        x.tick(5);
        come(x, way, 20, 1);
        x.tick(1000);
        come(x, way, 21, 1);
        check.due("deadline when one joined behind", x.about(1, 2), deadline);
        check.due("start when one joined behind", x.about(1, 0), 20);
        come(x, way, 19, 1);
        check.due("deadline when one joined in front", x.about(2, 2), deadline);
        check.due("start when one joined in front", x.about(0, 0), 19);
        check.due("number", x.requestOf(2), 0);
        check.due("group", x.about(2, 3), 0);
        check.due("way", x.about(2, 4), way);
        x.dispatch();
        check.due("latest", x.latest(), 0);
    }

    /** "A PART THAT COMES conflicts with no part that waits, and .." */
    private static void aConflictAnywhereForbidsJoining() {
        for (int other = 11; other <= 14; other++) {
            DeadlineElevator x = new DeadlineElevator();
            x.barrier();
            x.write(other, 1, 1);
            x.barrier();
            x.read(10, 2);
            x.read(12, 2);
            boolean conflict = other == 12 || other == 13;
            check.due("a read and a waiting write of " + other, x.requestOf(2), conflict ? 2 : 1);
        }
        DeadlineElevator y = new DeadlineElevator();
        y.read(13, 1);
        y.write(10, 2, 1);
        y.write(12, 2, 1);
        check.due("a write and a waiting read", y.requestOf(2), 2);
        y.write(14, 1, 1);
        check.due("a write beside both", y.requestOf(3), 2);
        DeadlineElevator z = new DeadlineElevator();
        z.write(16, 2, 1);
        z.write(10, 2, 1);
        z.write(12, 5, 1);
        check.due("a write and a waiting write", z.requestOf(2), 2);
    }

    /** "conflicts with no part that waits": a done one forbids nothing. */
    private static void aConflictWithADonePartForbidsNothing() {
        DeadlineElevator x = new DeadlineElevator();
        x.write(12, 1, 1);
        x.dispatch();
        x.read(10, 2);
        x.read(12, 1);
        request(x, 2, 1, 10, 3);
    }

    /** "have a sector in common and at least one of them writes." */
    private static void readingTwiceIsNoConflict() {
        DeadlineElevator x = new DeadlineElevator();
        x.read(12, 8);
        x.read(10, 2);
        request(x, 1, 0, 10, 10);
        x.read(8, 4);
        request(x, 2, 2, 8, 4);
        x.read(12, 8);
        request(x, 3, 2, 8, 12);
        check.due("ready(0)", x.ready(0), 2);
    }

    /** "there is a waiting request": it need not be ready. */
    private static void oneMayJoinWhatIsNotReady() {
        DeadlineElevator x = new DeadlineElevator();
        x.write(11, 1, 7);
        x.read(10, 2);
        check.due("ready(0)", x.ready(0), 0);
        x.read(12, 1);
        request(x, 2, 1, 10, 3);
        check.due("ready(0)", x.ready(0), 0);
        x.dispatch();
        check.due("ready(0)", x.ready(0), 1);
    }

    /** "Two parts CONFLICT when they have a sector in common": each of the 64, and none beside. */
    private static void conflictsSectorBySector() {
        for (int s = 0; s < 64; s++) {
            for (int pair = 0; pair < 4; pair++) {
                conflictsAround(s, pair / 2, pair % 2);
            }
        }
    }

    /** A part of one sector s, and behind it parts of up to eight around it. */
    private static void conflictsAround(int s, int first, int second) {
        for (int n = 1; n <= 8; n += 7) {
            for (int from = Math.max(0, s - 9); from <= Math.min(64 - n, s + 2); from++) {
                DeadlineElevator x = new DeadlineElevator();
                come(x, first, s, 1);
                come(x, second, from, n);
                boolean common = from <= s && s < from + n && first + second > 0;
                boolean joined = first == second && (from == s + 1 || from + n == s);
                int want = common || joined ? 1 : 2;
                check.due("ready of " + s + " and " + from + ", " + n, x.ready(0) + x.ready(1), want);
            }
        }
    }
}
