import java.util.ArrayList;
import java.util.List;

/** The document's terms written down as they stand, pair by pair, without thought for speed or room. */
final class PlainModel {
    static final class Part {
        int number;
        int way;
        int s;
        int n;
        int v;
        int[] values;
        Request request;

        boolean conflictsWith(Part other) {
            boolean common = s < other.s + other.n && other.s < s + n;
            return common && (way == 1 || other.way == 1);
        }
    }

    static final class Request {
        final List<Part> parts = new ArrayList<>();
        int deadline;
        int group;

        int number() {
            return parts.get(0).number;
        }

        int way() {
            return parts.get(0).way;
        }

        int start() {
            return parts.stream().mapToInt(p -> p.s).min().getAsInt();
        }

        int length() {
            return parts.stream().mapToInt(p -> p.n).sum();
        }
    }

    final int[] disk = new int[64];
    final List<Part> parts = new ArrayList<>();
    final List<Request> waiting = new ArrayList<>();
    final int[] expiry = {50, 500};
    int barriers;
    int now;
    int head;
    int batchWay;
    int batchCount;
    int starved;
    int latest = -1;

    int come(int way, int s, int n, int v) {
        if (n < 1 || n > 8 || s < 0 || (long) s + n > 64) {
            return -1;
        }
        if (parts.size() == 200 || waiting.size() == 24) {
            return -2;
        }
        Part part = new Part();
        part.number = parts.size();
        part.way = way;
        part.s = s;
        part.n = n;
        part.v = v;
        Request request = joined(part);
        if (request == null) {
            request = new Request();
            request.deadline = now + expiry[way];
            request.group = barriers;
            waiting.add(request);
        }
        request.parts.add(part);
        part.request = request;
        parts.add(part);
        return part.number;
    }

    private Request joined(Part part) {
        for (Request request : waiting) {
            for (Part other : request.parts) {
                if (part.conflictsWith(other)) {
                    return null;
                }
            }
        }
        Request front = null;
        Request behind = null;
        for (Request r : waiting) {
            boolean fits = r.way() == part.way && r.group == barriers && r.parts.size() < 4
                    && r.length() + part.n <= 16;
            if (fits && r.start() + r.length() == part.s && (front == null || r.number() < front.number())) {
                front = r;
            }
            if (fits && r.start() == part.s + part.n && (behind == null || r.number() < behind.number())) {
                behind = r;
            }
        }
        return front != null ? front : behind;
    }

    boolean isReady(Request request) {
        for (Request other : waiting) {
            if (other.group < request.group) {
                return false;
            }
            for (Part theirs : other.parts) {
                for (Part ours : request.parts) {
                    if (other != request && theirs.conflictsWith(ours) && ours.number > theirs.number) {
                        return false;
                    }
                }
            }
        }
        return true;
    }

    int ready(int way) {
        return way < 0 || way > 1 ? -1 : readyOf(way).size();
    }

    int waitingOf(int way) {
        return way < 0 || way > 1 ? -1 : (int) waiting.stream().filter(r -> r.way() == way).count();
    }

    private List<Request> readyOf(int way) {
        List<Request> found = new ArrayList<>();
        for (Request request : waiting) {
            if (request.way() == way && isReady(request)) {
                found.add(request);
            }
        }
        return found;
    }

    private static Request least(List<Request> of, java.util.function.ToIntFunction<Request> by) {
        Request best = null;
        for (Request r : of) {
            int order = best == null ? -1 : Integer.compare(by.applyAsInt(r), by.applyAsInt(best));
            if (order < 0 || order == 0 && r.number() < best.number()) {
                best = r;
            }
        }
        return best;
    }

    private Request ahead(int way) {
        List<Request> found = readyOf(way);
        found.removeIf(r -> r.start() < head);
        return least(found, Request::start);
    }

    private Request picked() {
        if (batchCount >= 1 && batchCount <= 3 && ahead(batchWay) != null) {
            batchCount++;
            return ahead(batchWay);
        }
        batchCount = 1;
        boolean writingReady = !readyOf(1).isEmpty();
        if (!readyOf(0).isEmpty() && (!writingReady || starved < 2)) {
            batchWay = 0;
            starved += writingReady ? 1 : 0;
        } else {
            batchWay = 1;
            starved = 0;
        }
        List<Request> expired = readyOf(batchWay);
        expired.removeIf(r -> r.deadline > now);
        if (!expired.isEmpty()) {
            return least(expired, r -> r.deadline);
        }
        Request next = ahead(batchWay);
        return next != null ? next : least(readyOf(batchWay), Request::start);
    }

    int dispatch() {
        if (waiting.isEmpty()) {
            return 0;
        }
        Request request = picked();
        for (Part part : request.parts) {
            part.values = new int[part.n];
            for (int i = 0; i < part.n; i++) {
                if (part.way == 1) {
                    disk[part.s + i] = part.v + i;
                } else {
                    part.values[i] = disk[part.s + i];
                }
            }
            part.request = null;
        }
        waiting.remove(request);
        head = request.start() + request.length();
        latest = request.number();
        return request.parts.size();
    }

    boolean expire(int reading, int writing) {
        if (!waiting.isEmpty() || reading < 0 || reading > 10000 || writing < 0 || writing > 10000) {
            return false;
        }
        expiry[0] = reading;
        expiry[1] = writing;
        return true;
    }

    boolean tick(int ms) {
        if (ms < 0 || ms > 100000) {
            return false;
        }
        now += ms;
        return true;
    }

    private Part partAt(int number) {
        return number < 0 || number >= parts.size() ? null : parts.get(number);
    }

    int state(int number) {
        Part part = partAt(number);
        return part == null ? 0 : part.request != null ? 1 : 2;
    }

    int value(int number, int i) {
        Part part = partAt(number);
        boolean there = part != null && part.way == 0 && part.request == null && i >= 0 && i < part.n;
        return there ? part.values[i] : 0;
    }

    int sector(int sector) {
        return sector < 0 || sector > 63 ? 0 : disk[sector];
    }

    int requestOf(int number) {
        return state(number) == 1 ? partAt(number).request.number() : -1;
    }

    int about(int number, int what) {
        if (state(number) != 1 || what < 0 || what > 4) {
            return -1;
        }
        Request r = partAt(number).request;
        return new int[] {r.start(), r.length(), r.deadline, r.group, r.way()}[what];
    }

    int batch() {
        return 10 * starved + 5 * batchWay + batchCount;
    }
}
