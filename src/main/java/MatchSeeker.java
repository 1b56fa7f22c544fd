import java.util.Arrays;

/**
 * Finds where a row of bytes says again what it said before, by rules that leave no choice,
 * and covers it with what is new and what is said again.
 */
public final class MatchSeeker {
    private static final int MOST_BYTES = 32768;
    private static final int MOST_BY_COST = 8192;
    private static final int MOST_WINDOW = 65536;
    private static final int MOST_CAP = 131072;
    private static final int MOST_GAP = 32;
    private static final int MOST_PRICE = 255;
    private static final int SMALLEST_LEAST = 3;
    private static final int GREATEST_LEAST = 8;
    private static final int BYTES_OF_LONG = 8;
    private static final int BITS_OF_BYTE = 8;
    private static final int MOST_BITS = 31;

    private static final int NEAREST = 0;
    private static final int NEAREST_LONG = 1;
    private static final int LONGEST = 2;
    private static final int LONGEST_IF_NOT_NEXT = 3;
    private static final int BY_COST = 4;
    private static final int LONG_ENOUGH = 8;

    private static final int NO_PLACE = -1;
    private static final int REFUSED = -1;
    private static final int FIRST_ROOM = 512;
    private static final int ROOM_GROWTH = 8;
    private static final long HASH_FACTOR = 0x9E3779B97F4A7C15L;
    private static final int HASH_SHIFT = 49;

    private final Row row;
    private final Rule law;
    private final Finder finder;
    private final Plan plan;
    private final Found found;

    public MatchSeeker() {
        row = new Row();
        law = new Rule();
        finder = new Finder(row, law);
        plan = new Plan(row, law, finder);
        found = new Found(row, law);
    }

    public void clear() {
        row.empty();
        finder.forgetData();
        found.forget();
    }

    public boolean write(long eight, int n) {
        if (!within(n, 1, BYTES_OF_LONG) || !row.takes(n)) {
            return false;
        }
        row.append(eight, n);
        return true;
    }

    public boolean again(int m, int n) {
        if (!within(m, 1, row.filled) || n < 0 || !row.takes((long) m * n)) {
            return false;
        }
        row.repeat(m, m * n);
        return true;
    }

    public boolean history(int h) {
        if (!within(h, 0, row.filled)) {
            return false;
        }
        row.past = h;
        return true;
    }

    public boolean rule(int way, int window, int least, int cap) {
        if (!within(way, NEAREST, BY_COST) || !within(window, 1, MOST_WINDOW)
                || !within(least, SMALLEST_LEAST, GREATEST_LEAST) || !within(cap, least, MOST_CAP)) {
            return false;
        }
        law.way = way;
        law.window = window;
        law.least = least;
        law.cap = cap;
        return true;
    }

    public boolean bounds(int a, int b, int literal, int match) {
        if (!within(a, 0, MOST_GAP) || !within(b, 0, MOST_GAP)
                || !within(literal, 0, MOST_PRICE) || !within(match, 0, MOST_PRICE)) {
            return false;
        }
        law.gapBehindLast = a;
        law.gapBehindEnd = b;
        law.literalPrice = literal;
        law.matchPrice = match;
        return true;
    }

    public int at(int p, int way, int what) {
        if (!row.hasPlace(p) || !within(way, NEAREST, LONGEST_IF_NOT_NEXT) || !within(what, 0, 1)) {
            return 0;
        }
        finder.readData();
        finder.seek(p, way);
        return what == 0 ? finder.length : finder.distance;
    }

    public int count(int p) {
        if (!row.hasPlace(p)) {
            return 0;
        }
        finder.readData();
        return finder.matchesAt(p);
    }

    public int go() {
        boolean byCost = law.way == BY_COST;
        if (byCost && row.filled - row.past > MOST_BY_COST) {
            return REFUSED;
        }
        finder.readData();
        found.begin();
        if (byCost) {
            followPlan();
        } else {
            takeWhatIsSought();
        }
        return found.stretches;
    }

    public int stretch(int k, int what) {
        if (!within(k, 0, found.stretches - 1)) {
            return REFUSED;
        }
        switch (what) {
            case 0: return found.literalsBefore[k];
            case 1: return found.lengths[k];
            case 2: return found.distances[k];
            default: return REFUSED;
        }
    }

    public int about(int what) {
        switch (what) {
            case 0: return found.tail;
            case 1: return found.literals;
            case 2: return found.cost;
            case 3: return found.greatestLength;
            case 4: return found.greatestDistance;
            default: return REFUSED;
        }
    }

    public int unlike() {
        return found.differences();
    }

    public int size() {
        return row.filled;
    }

    private void takeWhatIsSought() {
        for (int p = row.past; p < row.filled; p += Math.max(1, finder.length)) {
            finder.seek(p, law.way);
            found.add(finder.length, finder.distance);
        }
    }

    private void followPlan() {
        plan.make();
        int bytes = row.filled - row.past;
        for (int i = 0; i < bytes; i += Math.max(1, plan.length[i])) {
            found.add(plan.length[i], plan.distance[i]);
        }
    }

    private static boolean within(int value, int low, int high) {
        return value >= low && value <= high;
    }

    /** Few sizes, far apart: a small object stays small, and what growing leaves behind stays little. */
    private static int roomFor(int elements) {
        int room = FIRST_ROOM;
        while (room < elements && room < MOST_BYTES) {
            room *= ROOM_GROWTH;
        }
        return room;
    }

    private static int bitsOf(int distance) {
        int bits = 0;
        while (bits < MOST_BITS && distance >> bits != 0) {
            bits++;
        }
        return bits;
    }

    /** The DATA and how much of it is HISTORY. */
    private static final class Row {
        private byte[] bytes = new byte[FIRST_ROOM];
        private int filled = 0;
        private int past = 0;

        private boolean hasPlace(int p) {
            return p >= 0 && p < filled;
        }

        private boolean takes(long more) {
            return more <= MOST_BYTES - filled;
        }

        private void empty() {
            filled = 0;
            past = 0;
        }

        private void append(long eight, int n) {
            makeRoom(filled + n);
            for (int k = 0; k < n; k++) {
                bytes[filled] = (byte) (eight >>> BITS_OF_BYTE * (BYTES_OF_LONG - 1 - k));
                filled++;
            }
        }

        private void repeat(int period, int more) {
            makeRoom(filled + more);
            for (int k = 0; k < more; k++) {
                bytes[filled] = bytes[filled - period];
                filled++;
            }
        }

        private void makeRoom(int total) {
            if (total > bytes.length) {
                bytes = Arrays.copyOf(bytes, roomFor(total));
            }
        }
    }

    /** The RULE. */
    private static final class Rule {
        private int way = LONGEST;
        private int window = MOST_WINDOW;
        private int least = 4;
        private int cap = MOST_CAP;
        private int gapBehindLast = 0;
        private int gapBehindEnd = 0;
        private int literalPrice = 8;
        private int matchPrice = 16;

        private int lastOf(int bytes) {
            return bytes - 1 - gapBehindLast;
        }

        private int endOf(int bytes) {
            return Math.max(0, bytes - gapBehindEnd);
        }
    }

    /**
     * Seeks MATCHES. Places whose first LEAST bytes fall into one slot are linked, each to the one
     * before it, so that only places that may match are looked at, the nearest first.
     */
    private static final class Finder {
        private final Row row;
        private final Rule law;

        private int[] latestInSlot = new int[FIRST_ROOM];
        private int[] linkedBefore = new int[FIRST_ROOM];
        private int linked = 0;
        private int linkedLeast = 0;

        // For each distance a stretch of places whose bytes are known to be those that far before,
        // so that going over the DATA does not compare them again and again.
        private int[] sameFrom = new int[FIRST_ROOM];
        private int[] sameTo = new int[FIRST_ROOM];

        private int place = 0;
        private int candidate = NO_PLACE;
        private int lowest = 0;
        private int limit = 0;
        private int toBeat = 0;

        private int length = 0;
        private int distance = 0;

        private Finder(Row row, Rule law) {
            this.row = row;
            this.law = law;
        }

        private void forgetData() {
            unlink();
            Arrays.fill(sameFrom, 0);
            Arrays.fill(sameTo, 0);
        }

        private void unlink() {
            linked = 0;
            linkedLeast = law.least;
            Arrays.fill(latestInSlot, NO_PLACE);
        }

        /** Must come before seeking, whenever DATA or RULE may have changed. */
        private void readData() {
            if (linkedBefore.length < row.filled) {
                enlarge(roomFor(row.filled));
            }
            if (linkedLeast != law.least) {
                unlink();
            }
            while (linked + linkedLeast <= row.filled) {
                int slot = slotOf(linked);
                linkedBefore[linked] = latestInSlot[slot];
                latestInSlot[slot] = linked;
                linked++;
            }
        }

        private void enlarge(int room) {
            latestInSlot = new int[room];
            linkedBefore = new int[room];
            sameFrom = new int[room];
            sameTo = new int[room];
            unlink();
        }

        private int slotOf(int p) {
            long first = 0;
            for (int k = 0; k < linkedLeast; k++) {
                first = first << BITS_OF_BYTE | row.bytes[p + k] & 0xFF;
            }
            // The number of slots is a power of two.
            return (int) (first * HASH_FACTOR >>> HASH_SHIFT) & latestInSlot.length - 1;
        }

        /** Leaves in length and distance the MATCH that the way has at place p; 0 and 0 for none. */
        private void seek(int p, int way) {
            switch (way) {
                case NEAREST:
                    seekNearest(p);
                    break;
                case NEAREST_LONG:
                    startAt(p, LONG_ENOUGH);
                    if (!findLonger()) {
                        seekNearest(p);
                    }
                    break;
                case LONGEST_IF_NOT_NEXT:
                    seekLongestIfNotNext(p);
                    break;
                default:
                    seekLongest(p);
                    break;
            }
        }

        private void seekNearest(int p) {
            startAt(p, law.least);
            findLonger();
        }

        private void seekLongest(int p) {
            startAt(p, law.least);
            for (int left = p; left > 0 && findLonger(); left--) {
                continue;
            }
        }

        private void seekLongestIfNotNext(int p) {
            seekLongest(p);
            int lengthHere = length;
            int distanceHere = distance;
            if (lengthHere == 0) {
                return;
            }
            startAt(p + 1, lengthHere + 1);
            boolean longerNext = findLonger();
            length = longerNext ? 0 : lengthHere;
            distance = longerNext ? 0 : distanceHere;
        }

        private int matchesAt(int p) {
            startAt(p, law.least);
            int matches = 0;
            for (int left = p; left > 0 && candidate >= lowest; left--) {
                if (sameBytes(p, p - candidate, law.least) == law.least) {
                    matches++;
                }
                candidate = linkedBefore[candidate];
            }
            return matches;
        }

        /** Makes findLonger() begin with the nearest MATCH at p that has at least so many bytes. */
        private void startAt(int p, int atLeast) {
            place = p;
            length = 0;
            distance = 0;
            toBeat = atLeast - 1;
            lowest = Math.max(0, p - law.window);
            limit = Math.min(law.cap, law.endOf(row.filled) - p);
            boolean mayMatch = p >= 0 && p < linked && p <= law.lastOf(row.filled) && limit >= atLeast;
            candidate = mayMatch ? linkedBefore[p] : NO_PLACE;
        }

        /** Spares looking for longer ones where the caller knows that there are none. */
        private void expectAtMost(int bytes) {
            limit = Math.min(limit, bytes);
        }

        /** Goes on to the nearest MATCH that is longer than the one before; false when there is none. */
        private boolean findLonger() {
            byte[] bytes = row.bytes;
            for (int left = place; left > 0 && candidate >= lowest && toBeat < limit; left--) {
                int q = candidate;
                candidate = linkedBefore[q];
                if (bytes[q + toBeat] == bytes[place + toBeat]) {
                    int same = sameBytes(place, place - q, limit);
                    if (same > toBeat) {
                        toBeat = same;
                        length = same;
                        distance = place - q;
                        return true;
                    }
                }
            }
            return false;
        }

        /** How many bytes from p on, at most so many, are those that lie that far before them. */
        private int sameBytes(int p, int far, int atMost) {
            byte[] bytes = row.bytes;
            int stop = p + atMost;
            int knownFrom = sameFrom[far];
            int knownTo = sameTo[far];
            boolean known = knownFrom <= p && p < knownTo;
            int i = known ? knownTo : p;
            while (i < stop && bytes[i] == bytes[i - far]) {
                i++;
                if (i == knownFrom) {
                    i = knownTo;
                }
            }
            sameFrom[far] = known ? knownFrom : p;
            sameTo[far] = i;
            return Math.min(i, stop) - p;
        }
    }

    /**
     * WAY 4: what to take at each place, found from the end of the DATA backwards. Places are told
     * here from the end of the HISTORY on, so that the rows need no room for it.
     */
    private static final class Plan {
        private final Row row;
        private final Rule law;
        private final Finder finder;

        private int[] cost = new int[FIRST_ROOM];
        private int[] length = new int[FIRST_ROOM];
        private int[] distance = new int[FIRST_ROOM];

        // The ends that a MATCH may reach, the furthest first, without those that a further end
        // beats: so the cheapest of all up to some place is the first that is not behind it.
        private int[] ends = new int[FIRST_ROOM];
        private int endCount = 0;

        private Plan(Row row, Rule law, Finder finder) {
            this.row = row;
            this.law = law;
            this.finder = finder;
        }

        private void make() {
            int bytes = row.filled - row.past;
            makeRoom(bytes + 1);
            endCount = 0;
            cost[bytes] = 0;
            int last = law.lastOf(row.filled) - row.past;
            int longestNext = MOST_BYTES;
            for (int i = bytes - 1; i >= 0; i--) {
                if (i + law.least <= bytes) {
                    addEnd(i + law.least);
                }
                takeLiteral(i);
                takeBestMatch(i, longestNext);
                longestNext = i <= last ? finder.length : MOST_BYTES;
            }
        }

        private void makeRoom(int elements) {
            if (elements > cost.length) {
                int room = Math.min(roomFor(elements), MOST_BY_COST + 1);
                cost = new int[room];
                length = new int[room];
                distance = new int[room];
                ends = new int[room];
            }
        }

        private void takeLiteral(int i) {
            cost[i] = law.literalPrice + cost[i + 1];
            length[i] = 0;
            distance[i] = 0;
        }

        private void takeBestMatch(int i, int longestNext) {
            int p = row.past + i;
            finder.startAt(p, law.least);
            // One that is longer by two than all at the next place would, less a byte, be there too.
            finder.expectAtMost(Math.max(law.least, longestNext + 1));
            for (int left = p; left > 0 && finder.findLonger(); left--) {
                consider(i, finder.length, finder.distance);
            }
        }

        /** Of equal cost the longer one stays; the nearer of two as long has been considered before. */
        private void consider(int i, int most, int far) {
            int end = cheapestEnd(i + most);
            int price = law.matchPrice + bitsOf(far) + cost[end];
            if (price < cost[i] || price == cost[i] && end - i > length[i]) {
                cost[i] = price;
                length[i] = end - i;
                distance[i] = far;
            }
        }

        private void addEnd(int end) {
            while (endCount > 0 && cost[ends[endCount - 1]] > cost[end]) {
                endCount--;
            }
            ends[endCount] = end;
            endCount++;
        }

        private int cheapestEnd(int furthest) {
            int low = 0;
            int high = endCount - 1;
            while (low < high) {
                int middle = (low + high) / 2;
                if (ends[middle] <= furthest) {
                    high = middle;
                } else {
                    low = middle + 1;
                }
            }
            return ends[low];
        }
    }

    /** What the latest GOING found. */
    private static final class Found {
        private final Row row;
        private final Rule law;

        private int[] literalsBefore = new int[0];
        private int[] lengths = new int[0];
        private int[] distances = new int[0];
        private int stretches = 0;
        private int tail = 0;
        private int literals = 0;
        private int cost = 0;
        private int greatestLength = 0;
        private int greatestDistance = 0;
        private int bytesThen = 0;
        private int pastThen = 0;

        private byte[] rebuilt = new byte[0];

        private Found(Row row, Rule law) {
            this.row = row;
            this.law = law;
        }

        private void forget() {
            stretches = 0;
            tail = 0;
            literals = 0;
            cost = 0;
            greatestLength = 0;
            greatestDistance = 0;
            bytesThen = 0;
            pastThen = 0;
        }

        private void begin() {
            forget();
            bytesThen = row.filled;
            pastThen = row.past;
            int room = roomFor(bytesThen) / SMALLEST_LEAST;
            if (room > lengths.length) {
                literalsBefore = new int[room];
                lengths = new int[room];
                distances = new int[room];
            }
        }

        /** Adds a MATCH or, when its length is 0, a LITERAL; the TAIL is what no MATCH has followed. */
        private void add(int length, int distance) {
            if (length == 0) {
                tail++;
                literals++;
                cost += law.literalPrice;
                return;
            }
            literalsBefore[stretches] = tail;
            lengths[stretches] = length;
            distances[stretches] = distance;
            stretches++;
            tail = 0;
            cost += law.matchPrice + bitsOf(distance);
            greatestLength = Math.max(greatestLength, length);
            greatestDistance = Math.max(greatestDistance, distance);
        }

        private int differences() {
            rebuild();
            int unlike = 0;
            for (int i = 0; i < bytesThen; i++) {
                if (!row.hasPlace(i) || rebuilt[i] != row.bytes[i]) {
                    unlike++;
                }
            }
            return unlike;
        }

        private void rebuild() {
            if (rebuilt.length < bytesThen) {
                rebuilt = new byte[roomFor(bytesThen)];
            }
            int done = copyFromData(0, pastThen);
            for (int k = 0; k < stretches; k++) {
                done = copyFromData(done, literalsBefore[k]);
                done = copyFromRebuilt(done, lengths[k], distances[k]);
            }
            copyFromData(done, tail);
        }

        private int copyFromData(int from, int bytes) {
            int stop = from + bytes;
            for (int i = from; i < stop; i++) {
                rebuilt[i] = row.hasPlace(i) ? row.bytes[i] : 0;
            }
            return stop;
        }

        private int copyFromRebuilt(int from, int bytes, int distance) {
            int stop = from + bytes;
            for (int i = from; i < stop; i++) {
                rebuilt[i] = rebuilt[i - distance];
            }
            return stop;
        }
    }
}
