import java.util.Arrays;

/**
 * A cache whose index is a table in which every key has two buckets. One writer and three readers go
 * on step by step, in any order that the caller likes.
 */
public final class SteppedCache {
    public static final int NONE = -1;

    private static final int BUCKETS = 8;
    private static final int STRIPES = 4;
    private static final int READERS = 3;
    private static final int MOST_ITEMS = 32;
    private static final int USUAL_ITEMS = 12;
    private static final int MOST_WAYS = 4;
    private static final int USUAL_WAYS = 2;
    private static final int LONGEST_LIFE = 1000;
    private static final int LONGEST_PASS = 1000;
    private static final int MOST_STEPS = 50;

    private final Tally tally;
    private final Store store;
    private final Writer writer;
    private final Reader[] readers;

    public SteppedCache(int items, int ways) {
        tally = new Tally();
        store = new Store(
                isWithin(items, 1, MOST_ITEMS) ? items : USUAL_ITEMS,
                isWithin(ways, 1, MOST_WAYS) ? ways : USUAL_WAYS,
                tally);
        writer = new Writer(store, tally);
        readers = new Reader[READERS];
        for (int r = 0; r < READERS; r++) {
            readers[r] = new Reader(store, writer, tally);
        }
    }

    public boolean write(int kind, int key, int value, int life, int token) {
        if (writer.isUnderWay() || !isWithin(kind, Writer.SET, Writer.DELETE) || !isWithin(life, 0, LONGEST_LIFE)) {
            return false;
        }
        writer.begin(kind, key, value, life, token);
        return true;
    }

    public int work(int n) {
        int done = 0;
        if (isWithin(n, 1, MOST_STEPS)) {
            while (done < n && writer.isUnderWay()) {
                writer.goOn();
                done++;
            }
        }
        return done;
    }

    public int outcome() {
        return writer.outcome;
    }

    public boolean get(int r, int key) {
        if (!isReader(r) || readers[r].isUnderWay()) {
            return false;
        }
        readers[r].begin(key);
        return true;
    }

    public int step(int r) {
        if (!isReader(r) || !readers[r].isUnderWay()) {
            return NONE;
        }
        readers[r].goOn();
        return readers[r].state;
    }

    public int state(int r) {
        return isReader(r) ? readers[r].state : NONE;
    }

    public int value(int r) {
        return isHit(r) ? readers[r].copiedValue : 0;
    }

    public int token(int r) {
        return isHit(r) ? readers[r].copiedToken : 0;
    }

    public boolean pass(int n) {
        if (!isWithin(n, 1, LONGEST_PASS)) {
            return false;
        }
        store.time += n;
        return true;
    }

    public int where(int key) {
        return store.find(key);
    }

    public int at(int p) {
        return isWithin(p, 0, store.places.length - 1) ? store.places[p] : NONE;
    }

    public int item(int i, int which) {
        if (!isUsedItem(i)) {
            return 0;
        }
        switch (which) {
            case 0: return store.keys[i];
            case 1: return store.values[i];
            case 2: return store.tokens[i];
            case 3: return store.expiries[i];
            case 4: return store.bits[i] ? 1 : 0;
            default: return 0;
        }
    }

    public boolean used(int i) {
        return isUsedItem(i);
    }

    public int version(int stripe) {
        return isWithin(stripe, 0, STRIPES - 1) ? store.versions[stripe] : NONE;
    }

    public int hash(int key) {
        return firstBucket(key) + 8 * secondBucket(key) + 64 * tagOf(key) + 1024 * stripeOf(key);
    }

    public int count(int which) {
        switch (which) {
            case 0: return store.usedCount;
            case 1: return tally.evictions;
            case 2: return tally.moves;
            case 3: return tally.retries;
            case 4: return tally.waits;
            case 5: return tally.nearMisses;
            case 6: return tally.expiredRemoved;
            case 7: return store.time;
            case 8: return writer.hand;
            case 9: return store.latestToken;
            default: return NONE;
        }
    }

    private boolean isUsedItem(int i) {
        return isWithin(i, 0, store.capacity - 1) && store.usedFlags[i];
    }

    private boolean isHit(int r) {
        return isReader(r) && readers[r].state == Reader.HIT;
    }

    private static boolean isReader(int r) {
        return isWithin(r, 0, READERS - 1);
    }

    private static boolean isWithin(int n, int least, int most) {
        return n >= least && n <= most;
    }

    private static int mix(int key) {
        return (key ^ (key >>> 15)) * 1368264107;
    }

    private static int tagOf(int key) {
        return mix(key) >>> 28;
    }

    private static int stripeOf(int key) {
        return (mix(key) >>> 23) & 3;
    }

    private static int firstBucket(int key) {
        return (mix(key) >>> 25) & 7;
    }

    private static int secondBucket(int key) {
        return otherBucket(firstBucket(key), key);
    }

    private static int otherBucket(int bucket, int key) {
        return bucket ^ (1 + tagOf(key) % 7);
    }

    /** What has happened so far, counted by the writer, the readers and their look-ups alike. */
    private static final class Tally {
        int evictions;
        int moves;
        int retries;
        int waits;
        int nearMisses;
        int expiredRemoved;
    }

    /** The table, the items, the versions and the time: all that the writer and the readers share. */
    private static final class Store {
        final Tally tally;
        final int capacity;
        final int ways;
        final int[] places;
        final int[] keys;
        final int[] values;
        final int[] tokens;
        final int[] expiries;
        final boolean[] bits;
        final boolean[] usedFlags;
        final int[] versions;
        int usedCount;
        int time;
        int latestToken;

        Store(int capacity, int ways, Tally tally) {
            this.tally = tally;
            this.capacity = capacity;
            this.ways = ways;
            places = new int[BUCKETS * ways];
            Arrays.fill(places, NONE);
            keys = new int[capacity];
            values = new int[capacity];
            tokens = new int[capacity];
            expiries = new int[capacity];
            bits = new boolean[capacity];
            usedFlags = new boolean[capacity];
            versions = new int[STRIPES];
        }

        boolean isFull() {
            return usedCount == capacity;
        }

        /** Whether an expiry has come; a reader asks it of a copy, the item may have another one by now. */
        boolean isOver(int expiry) {
            return expiry != 0 && expiry <= time;
        }

        int find(int key) {
            int place = findIn(firstBucket(key), key);
            return place != NONE ? place : findIn(secondBucket(key), key);
        }

        int lookUp(int key) {
            int place = lookUpIn(firstBucket(key), key);
            return place != NONE ? place : lookUpIn(secondBucket(key), key);
        }

        int findIn(int bucket, int key) {
            int end = ways * (bucket + 1);
            for (int p = ways * bucket; p < end; p++) {
                if (places[p] != NONE && keys[places[p]] == key) {
                    return p;
                }
            }
            return NONE;
        }

        int lookUpIn(int bucket, int key) {
            int place = findIn(bucket, key);
            int end = place != NONE ? place : ways * (bucket + 1);
            for (int p = ways * bucket; p < end; p++) {
                if (places[p] != NONE && tagOf(keys[places[p]]) == tagOf(key)) {
                    tally.nearMisses++;
                }
            }
            return place;
        }

        int versionFor(int key) {
            return versions[stripeOf(key)];
        }

        void growVersion(int key, int by) {
            versions[stripeOf(key)] += by;
        }

        void remove(int i) {
            for (int p = 0; p < places.length; p++) {
                if (places[p] == i) {
                    places[p] = NONE;
                }
            }
            usedFlags[i] = false;
            usedCount--;
            growVersion(keys[i], 2);
        }

        void renew(int i, int life) {
            latestToken++;
            tokens[i] = latestToken;
            expiries[i] = life == 0 ? 0 : time + life;
        }

        /** Asked only when an item is free; the bound keeps the answer a number of an item in any case. */
        int lowestFree() {
            int i = 0;
            while (i < capacity - 1 && usedFlags[i]) {
                i++;
            }
            return i;
        }

        void insert(int place, int key, int value, int life) {
            int i = lowestFree();
            usedFlags[i] = true;
            usedCount++;
            keys[i] = key;
            values[i] = value;
            renew(i, life);
            bits[i] = false;
            places[place] = i;
        }
    }

    /** The places over which items are moved on to make room for a key. */
    private static final class Path {
        static final int MOST_MOVES = 4;

        final Store store;
        final int[] stops;
        /** How many items have to be moved: stops 0 .. length are the path. */
        int length;

        private final int[] queue;
        private final int[] before;
        private final int[] depths;
        private int queued;

        Path(Store store) {
            this.store = store;
            stops = new int[MOST_MOVES + 1];
            queue = new int[store.places.length];
            before = new int[store.places.length];
            depths = new int[store.places.length];
        }

        /**
         * Goes breadth first and through each bucket upwards, so that paths come up in the document's
         * order of preference: the first free place that comes up ends the path to be taken. A place
         * met before is left out, as the path on which it was met first is the better one.
         */
        boolean seek(int key) {
            queued = 0;
            Arrays.fill(depths, NONE);
            enter(firstBucket(key), NONE, 0);
            enter(secondBucket(key), NONE, 0);
            for (int head = 0; head < queue.length && head < queued; head++) {
                int p = queue[head];
                if (store.places[p] == NONE) {
                    keep(p);
                    return true;
                }
                if (depths[p] < MOST_MOVES) {
                    enter(otherBucket(p / store.ways, store.keys[store.places[p]]), p, depths[p] + 1);
                }
            }
            return false;
        }

        private void enter(int bucket, int from, int depth) {
            int end = store.ways * (bucket + 1);
            for (int p = store.ways * bucket; p < end; p++) {
                if (depths[p] == NONE) {
                    depths[p] = depth;
                    before[p] = from;
                    queue[queued] = p;
                    queued++;
                }
            }
        }

        private void keep(int last) {
            length = depths[last];
            int p = last;
            for (int k = length; k > 0; k--) {
                stops[k] = p;
                p = before[p];
            }
            stops[0] = p;
        }
    }

    /** The one writer, with the write that is under way or was the latest. */
    private static final class Writer {
        static final int SET = 0;
        static final int ADD = 1;
        static final int REPLACE = 2;
        static final int CAS = 3;
        static final int DELETE = 4;

        private static final int UNDER_WAY = 0;
        private static final int STORED = 1;
        private static final int NOT_STORED = 2;
        private static final int EXISTS = 3;
        private static final int NOT_FOUND = 4;
        private static final int DELETED = 5;
        private static final int NO_ROOM = 6;

        private static final int AT_LOOK_UP = 0;
        private static final int AT_NEW_VALUE = 1;
        private static final int AT_NEW_TOKEN = 2;
        private static final int AT_EVICTION = 3;
        private static final int AT_PATH = 4;
        private static final int AT_MOVE_ON = 5;
        private static final int AT_MOVE_OFF = 6;
        private static final int AT_INSERT = 7;

        final Store store;
        final Tally tally;
        final Path path;
        int outcome;
        int hand;

        private int kind;
        private int key;
        private int newValue;
        private int life;
        private int knownToken;
        private int next;
        private int changed;
        private int moving;

        Writer(Store store, Tally tally) {
            this.store = store;
            this.tally = tally;
            path = new Path(store);
            outcome = NONE;
        }

        boolean isUnderWay() {
            return outcome == UNDER_WAY;
        }

        void begin(int kind, int key, int newValue, int life, int knownToken) {
            this.kind = kind;
            this.key = key;
            this.newValue = newValue;
            this.life = life;
            this.knownToken = knownToken;
            outcome = UNDER_WAY;
            next = AT_LOOK_UP;
        }

        void goOn() {
            switch (next) {
                case AT_LOOK_UP: lookUpKey(); break;
                case AT_NEW_VALUE: changeValue(); break;
                case AT_NEW_TOKEN: changeToken(); break;
                case AT_EVICTION: evict(); break;
                case AT_PATH: seekPath(); break;
                case AT_MOVE_ON: moveOn(); break;
                case AT_MOVE_OFF: moveOff(); break;
                default: insertKey(); break;
            }
        }

        private void lookUpKey() {
            int place = store.lookUp(key);
            int found = place != NONE ? store.places[place] : NONE;
            if (found != NONE && store.isOver(store.expiries[found])) {
                store.remove(found);
                tally.expiredRemoved++;
                found = NONE;
            }
            if (found != NONE) {
                chooseWhenFound(found);
            } else {
                chooseWhenNotFound();
            }
        }

        private void chooseWhenFound(int found) {
            if (kind == ADD) {
                outcome = NOT_STORED;
            } else if (kind == DELETE) {
                store.remove(found);
                outcome = DELETED;
            } else if (kind == CAS && store.tokens[found] != knownToken) {
                outcome = EXISTS;
            } else {
                changed = found;
                next = AT_NEW_VALUE;
            }
        }

        private void chooseWhenNotFound() {
            if (kind == REPLACE) {
                outcome = NOT_STORED;
            } else if (kind == CAS || kind == DELETE) {
                outcome = NOT_FOUND;
            } else {
                next = store.isFull() ? AT_EVICTION : AT_PATH;
            }
        }

        private void changeValue() {
            store.growVersion(key, 1);
            store.values[changed] = newValue;
            next = AT_NEW_TOKEN;
        }

        private void changeToken() {
            store.renew(changed, life);
            store.growVersion(key, 1);
            outcome = STORED;
        }

        private void evict() {
            for (int n = 0; n < store.capacity && store.bits[hand]; n++) {
                store.bits[hand] = false;
                turnHand();
            }
            store.remove(hand);
            turnHand();
            tally.evictions++;
            next = AT_PATH;
        }

        private void turnHand() {
            hand = hand + 1 < store.capacity ? hand + 1 : 0;
        }

        private void seekPath() {
            if (path.seek(key)) {
                moving = path.length;
                chooseMove();
            } else {
                outcome = NO_ROOM;
            }
        }

        private void chooseMove() {
            moving--;
            next = moving >= 0 ? AT_MOVE_ON : AT_INSERT;
        }

        private void moveOn() {
            int i = store.places[path.stops[moving]];
            store.growVersion(store.keys[i], 1);
            store.places[path.stops[moving + 1]] = i;
            next = AT_MOVE_OFF;
        }

        private void moveOff() {
            int i = store.places[path.stops[moving]];
            store.places[path.stops[moving]] = NONE;
            store.growVersion(store.keys[i], 1);
            tally.moves++;
            chooseMove();
        }

        private void insertKey() {
            store.insert(path.stops[0], key, newValue, life);
            outcome = STORED;
        }
    }

    /** One of the readers, with the reading that is under way or was its latest. */
    private static final class Reader {
        static final int HIT = 7;

        private static final int VERSION = 1;
        private static final int FIRST = 2;
        private static final int SECOND = 3;
        private static final int COPY = 4;
        private static final int CHECK = 5;
        private static final int LOCKED = 6;
        private static final int MISS = 8;
        private static final int MOST_RETRIES = 3;

        final Store store;
        final Writer writer;
        final Tally tally;
        int state;
        int copiedValue;
        int copiedToken;

        private int key;
        private int retries;
        private int keptVersion;
        private int keptItem;
        private int copiedExpiry;

        Reader(Store store, Writer writer, Tally tally) {
            this.store = store;
            this.writer = writer;
            this.tally = tally;
        }

        boolean isUnderWay() {
            return isWithin(state, VERSION, LOCKED);
        }

        void begin(int key) {
            this.key = key;
            retries = 0;
            state = VERSION;
        }

        void goOn() {
            switch (state) {
                case VERSION: keepVersion(); break;
                case FIRST: lookInto(firstBucket(key), SECOND); break;
                case SECOND: lookInto(secondBucket(key), CHECK); break;
                case COPY: copyItem(); state = CHECK; break;
                case CHECK: checkVersion(); break;
                default: readLocked(); break;
            }
        }

        private void keepVersion() {
            keptVersion = store.versionFor(key);
            if ((keptVersion & 1) != 0) {
                tally.waits++;
            } else {
                state = FIRST;
            }
        }

        private void lookInto(int bucket, int stateIfNotFound) {
            int place = store.lookUpIn(bucket, key);
            keptItem = place != NONE ? store.places[place] : NONE;
            state = place != NONE ? COPY : stateIfNotFound;
        }

        private void copyItem() {
            copiedValue = store.values[keptItem];
            copiedToken = store.tokens[keptItem];
            copiedExpiry = store.expiries[keptItem];
        }

        private void checkVersion() {
            if (store.versionFor(key) != keptVersion) {
                retries++;
                tally.retries++;
                state = retries >= MOST_RETRIES ? LOCKED : VERSION;
            } else {
                end(keptItem != NONE && !store.isOver(copiedExpiry));
            }
        }

        private void readLocked() {
            if (writer.isUnderWay()) {
                tally.waits++;
                return;
            }
            int place = store.lookUp(key);
            keptItem = place != NONE ? store.places[place] : NONE;
            if (keptItem != NONE) {
                copyItem();
            }
            end(keptItem != NONE && !store.isOver(copiedExpiry));
        }

        private void end(boolean hit) {
            if (hit) {
                store.bits[keptItem] = true;
            }
            state = hit ? HIT : MISS;
        }
    }
}
