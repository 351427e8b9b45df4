/**
 * Puts the requests for a disk into the order in which it does them: sorted sweeps in batches, but
 * none waits long beyond its deadline, neighbours are done together, and everybody sees what would
 * have been seen if all had been done in the order in which they came.
 *
 * <p>All rows are made with the object; no later call makes an object or an array.
 */
public final class DeadlineElevator {
    /** There is no such thing, or the arguments are wrong. */
    public static final int NONE = -1;
    /** What read and write answer when there is no room. */
    public static final int FULL = -2;

    private static final int READING = 0;
    private static final int WRITING = 1;

    private static final int SECTORS = 64;
    private static final int MOST_PARTS = 200;
    private static final int MOST_WAITING = 24;
    private static final int LONGEST_PART = 8;
    private static final int LONGEST_REQUEST = 16;
    private static final int MOST_PARTS_OF_REQUEST = 4;
    private static final int LONGEST_BATCH = 4;
    private static final int MOST_STARVED = 2;
    private static final int LONGEST_EXPIRY = 10000;
    private static final int LONGEST_TICK = 100000;

    private final int[] disk = new int[SECTORS];
    private final Parts parts = new Parts();
    private final Requests requests = new Requests();
    private final Claims claims = new Claims();
    private final Batch currentBatch = new Batch();
    private int readingExpiry = 50;
    private int writingExpiry = 500;
    private int barriers = 0;
    private int time = 0;
    private int position = 0;
    private int lastDispatched = NONE;

    /** Makes an empty elevator: the disk all 0, the head at 0, the time 0. */
    public DeadlineElevator() {
    }

    /** A part comes that reads n sectors from s on; answers its number, NONE or FULL. */
    public int read(int s, int n) {
        return take(READING, s, n, 0);
    }

    /** A part comes that writes v, v + 1, .. from s on; answers its number, NONE or FULL. */
    public int write(int s, int n, int v) {
        return take(WRITING, s, n, v);
    }

    /** A barrier comes; answers how many came so far. */
    public int barrier() {
        barriers++;
        return barriers;
    }

    /** Sets the expiries; refused when a request waits or one of them is not 0 .. 10000. */
    public boolean expire(int reading, int writing) {
        boolean inRange = isWithin(reading, LONGEST_EXPIRY) && isWithin(writing, LONGEST_EXPIRY);
        if (requests.count > 0 || !inRange) {
            return false;
        }
        readingExpiry = reading;
        writingExpiry = writing;
        return true;
    }

    /** Lets time pass; refused when ms is not 0 .. 100000. */
    public boolean tick(int ms) {
        if (!isWithin(ms, LONGEST_TICK)) {
            return false;
        }
        time += ms;
        return true;
    }

    /** Dispatches a request; answers how many parts it has, 0 when none waits. */
    public int dispatch() {
        markReady();
        int request = pick();
        if (request == NONE) {
            return 0;
        }
        carryOut(request);
        return requests.parts[request];
    }

    /** 1 when the part waits, 2 when it is done, 0 when there is no such part. */
    public int state(int part) {
        if (!parts.has(part)) {
            return 0;
        }
        return parts.done[part] ? 2 : 1;
    }

    /** The i-th value that a part has read, 0 when there is none. */
    public int value(int part, int i) {
        if (!parts.has(part) || !parts.done[part] || parts.way[part] != READING) {
            return 0;
        }
        if (i < 0 || i >= parts.length[part]) {
            return 0;
        }
        return parts.data[part * LONGEST_PART + i];
    }

    /** The sector's value now, 0 when there is no such sector. */
    public int sector(int sector) {
        return isWithin(sector, SECTORS - 1) ? disk[sector] : 0;
    }

    /** How many requests of the way wait; NONE when there is no such way. */
    public int waiting(int way) {
        if (!isWithin(way, WRITING)) {
            return NONE;
        }
        int found = 0;
        for (int i = 0; i < requests.count; i++) {
            if (requests.way[requests.queue[i]] == way) {
                found++;
            }
        }
        return found;
    }

    /** How many requests of the way are ready; NONE when there is no such way. */
    public int ready(int way) {
        if (!isWithin(way, WRITING)) {
            return NONE;
        }
        markReady();
        int found = 0;
        for (int i = 0; i < requests.count; i++) {
            if (requests.isReady(requests.queue[i], way)) {
                found++;
            }
        }
        return found;
    }

    /** The number of the request in which the part waits; NONE when it does not wait. */
    public int requestOf(int part) {
        return parts.isWaiting(part) ? parts.request[part] : NONE;
    }

    /** Start, length, deadline, group or way (0 .. 4) of the request in which the part waits. */
    public int about(int part, int what) {
        if (!parts.isWaiting(part)) {
            return NONE;
        }
        int request = parts.request[part];
        switch (what) {
            case 0:
                return requests.start[request];
            case 1:
                return requests.length[request];
            case 2:
                return requests.deadline[request];
            case 3:
                return requests.group[request];
            case 4:
                return requests.way[request];
            default:
                return NONE;
        }
    }

    /** The number of the request that was dispatched last; NONE when none was. */
    public int latest() {
        return lastDispatched;
    }

    /** The sector behind the request that was dispatched last; 0 at first. */
    public int head() {
        return position;
    }

    /** The time in milliseconds. */
    public int now() {
        return time;
    }

    /** 10 * starved + 5 * way + count of the batch. */
    public int batch() {
        return 10 * currentBatch.starved + 5 * currentBatch.way + currentBatch.count;
    }

    private static boolean isWithin(int number, int greatest) {
        return number >= 0 && number <= greatest;
    }

    private static boolean isOnDisk(int s, int n) {
        // s + n could wrap around for a great s, SECTORS - n can't.
        return n >= 1 && n <= LONGEST_PART && s >= 0 && s <= SECTORS - n;
    }

    private static long sectorsFrom(int s, int n) {
        return ((1L << n) - 1) << s;
    }

    private int take(int way, int s, int n, int v) {
        if (!isOnDisk(s, n)) {
            return NONE;
        }
        if (parts.count == MOST_PARTS || requests.count == MOST_WAITING) {
            return FULL;
        }
        int host = hostFor(way, s, n);
        int part = parts.add(way, s, n, v);
        if (host == NONE) {
            parts.request[part] = part;
            int expiry = way == READING ? readingExpiry : writingExpiry;
            requests.open(part, way, s, n, time + expiry, barriers);
        } else {
            parts.request[part] = host;
            requests.extend(host, s, n);
        }
        return part;
    }

    /** The waiting request that a part which comes now joins, or NONE. */
    private int hostFor(int way, int s, int n) {
        claimAllWaiting();
        if (claims.conflictWith(way, sectorsFrom(s, n))) {
            return NONE;
        }
        return requests.neighbourOf(way, s, n, barriers);
    }

    private void claimAllWaiting() {
        claims.clear();
        for (int part = 0; part < parts.count; part++) {
            if (!parts.done[part]) {
                claims.add(parts.way[part], parts.sectors(part));
            }
        }
    }

    private void markReady() {
        requests.markLeastGroup();
        claims.clear();
        for (int part = 0; part < parts.count; part++) {
            if (!parts.done[part]) {
                long sectors = parts.sectors(part);
                // Claims of the part's own request do no harm: parts of one request never overlap.
                if (claims.conflictWith(parts.way[part], sectors)) {
                    requests.ready[parts.request[part]] = false;
                }
                claims.add(parts.way[part], sectors);
            }
        }
    }

    /** The ready request that is next, or NONE; the batch goes on or begins anew for it. */
    private int pick() {
        if (currentBatch.mayGoOn()) {
            int next = requests.leastStart(currentBatch.way, position);
            if (next != NONE) {
                currentBatch.count++;
                return next;
            }
        }
        boolean readingReady = requests.hasReady(READING);
        boolean writingReady = requests.hasReady(WRITING);
        if (!readingReady && !writingReady) {
            return NONE;
        }
        currentBatch.begin(readingReady, writingReady);
        return firstOfBatch(currentBatch.way);
    }

    private int firstOfBatch(int way) {
        int expired = requests.leastExpired(way, time);
        if (expired != NONE) {
            return expired;
        }
        int ahead = requests.leastStart(way, position);
        return ahead != NONE ? ahead : requests.leastStart(way, 0);
    }

    private void carryOut(int request) {
        for (int part = request; part < parts.count; part++) {
            if (parts.request[part] == request) {
                parts.carryOut(part, disk);
            }
        }
        requests.remove(request);
        position = requests.end(request);
        lastDispatched = request;
    }

    /** The parts that came, each at its number. */
    private static final class Parts {
        private final int[] way = new int[MOST_PARTS];
        private final int[] start = new int[MOST_PARTS];
        private final int[] length = new int[MOST_PARTS];
        private final int[] request = new int[MOST_PARTS];
        private final boolean[] done = new boolean[MOST_PARTS];
        /** LONGEST_PART places for each part: what it writes, or what it has read. */
        private final int[] data = new int[MOST_PARTS * LONGEST_PART];
        private int count = 0;

        private boolean has(int part) {
            return part >= 0 && part < count;
        }

        private boolean isWaiting(int part) {
            return has(part) && !done[part];
        }

        private long sectors(int part) {
            return sectorsFrom(start[part], length[part]);
        }

        private int add(int itsWay, int s, int n, int v) {
            int part = count;
            way[part] = itsWay;
            start[part] = s;
            length[part] = n;
            for (int i = 0; i < n; i++) {
                data[part * LONGEST_PART + i] = v + i;
            }
            count++;
            return part;
        }

        private void carryOut(int part, int[] disk) {
            int own = part * LONGEST_PART;
            if (way[part] == WRITING) {
                System.arraycopy(data, own, disk, start[part], length[part]);
            } else {
                System.arraycopy(disk, start[part], data, own, length[part]);
            }
            done[part] = true;
        }
    }

    /** The requests, each at its number, and the queue of those that wait. */
    private static final class Requests {
        private final int[] way = new int[MOST_PARTS];
        private final int[] start = new int[MOST_PARTS];
        private final int[] length = new int[MOST_PARTS];
        private final int[] parts = new int[MOST_PARTS];
        private final int[] deadline = new int[MOST_PARTS];
        private final int[] group = new int[MOST_PARTS];
        /** As it was when markReady was called last. */
        private final boolean[] ready = new boolean[MOST_PARTS];
        /** The numbers of those that wait, ascending, so that of equals the first found is the least. */
        private final int[] queue = new int[MOST_WAITING];
        private int count = 0;

        private int end(int request) {
            return start[request] + length[request];
        }

        private boolean isReady(int request, int ofWay) {
            return ready[request] && way[request] == ofWay;
        }

        private void open(int number, int itsWay, int s, int n, int itsDeadline, int itsGroup) {
            way[number] = itsWay;
            start[number] = s;
            length[number] = n;
            parts[number] = 1;
            deadline[number] = itsDeadline;
            group[number] = itsGroup;
            queue[count] = number;
            count++;
        }

        private void extend(int request, int s, int n) {
            start[request] = Math.min(start[request], s);
            length[request] += n;
            parts[request]++;
        }

        private void remove(int request) {
            int kept = 0;
            for (int i = 0; i < count; i++) {
                if (queue[i] != request) {
                    queue[kept] = queue[i];
                    kept++;
                }
            }
            count = kept;
        }

        /** The one with room that ends directly in front of s, else that begins directly behind. */
        private int neighbourOf(int itsWay, int s, int n, int itsGroup) {
            int behind = NONE;
            for (int i = 0; i < count; i++) {
                int request = queue[i];
                if (way[request] == itsWay && group[request] == itsGroup && hasRoom(request, n)) {
                    if (end(request) == s) {
                        return request;
                    }
                    if (behind == NONE && start[request] == s + n) {
                        behind = request;
                    }
                }
            }
            return behind;
        }

        private boolean hasRoom(int request, int n) {
            return parts[request] < MOST_PARTS_OF_REQUEST && length[request] + n <= LONGEST_REQUEST;
        }

        private void markLeastGroup() {
            // Groups never fall from one number to the next: the first in the queue has the least.
            for (int i = 0; i < count; i++) {
                ready[queue[i]] = group[queue[i]] == group[queue[0]];
            }
        }

        private boolean hasReady(int ofWay) {
            return leastStart(ofWay, 0) != NONE;
        }

        /** Of the ready ones with a start not below the floor that with the least, or NONE. */
        private int leastStart(int ofWay, int floor) {
            int best = NONE;
            for (int i = 0; i < count; i++) {
                int request = queue[i];
                if (isReady(request, ofWay) && start[request] >= floor
                        && (best == NONE || start[request] < start[best])) {
                    best = request;
                }
            }
            return best;
        }

        /** Of the ready ones with a deadline not after the time that with the least, or NONE. */
        private int leastExpired(int ofWay, int time) {
            int best = NONE;
            for (int i = 0; i < count; i++) {
                int request = queue[i];
                if (isReady(request, ofWay) && deadline[request] <= time
                        && (best == NONE || deadline[request] < deadline[best])) {
                    best = request;
                }
            }
            return best;
        }
    }

    /** The sectors, a bit each, that some parts read and write. */
    private static final class Claims {
        private long beingRead = 0;
        private long beingWritten = 0;

        private void clear() {
            beingRead = 0;
            beingWritten = 0;
        }

        private void add(int way, long sectors) {
            if (way == WRITING) {
                beingWritten |= sectors;
            } else {
                beingRead |= sectors;
            }
        }

        private boolean conflictWith(int way, long sectors) {
            long against = way == WRITING ? beingRead | beingWritten : beingWritten;
            return (against & sectors) != 0;
        }
    }

    /** How far the present batch has come, and how often writing had to stand back. */
    private static final class Batch {
        private int way = READING;
        private int count = 0;
        private int starved = 0;

        private boolean mayGoOn() {
            return count > 0 && count < LONGEST_BATCH;
        }

        private void begin(boolean readingReady, boolean writingReady) {
            count = 1;
            if (readingReady && (!writingReady || starved < MOST_STARVED)) {
                way = READING;
                if (writingReady) {
                    starved++;
                }
            } else {
                way = WRITING;
                starved = 0;
            }
        }
    }
}
