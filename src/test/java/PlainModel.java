import java.util.ArrayDeque;
import java.util.ArrayList;
import java.util.List;

/**
 * The document once more, as near to its words as can be and with no thought for speed: steps of a
 * write are tasks in a queue, and a path is the first of all those that there are.
 */
final class PlainModel {
    static final class Item {
        boolean used;
        int key;
        int value;
        int token;
        int expiry;
        boolean bit;
    }

    static final class Reading {
        int state;
        int key;
        int retries;
        int version;
        Item item;
        int value;
        int token;
        int expiry;
    }

    private final int ways;
    private final List<Item> items = new ArrayList<>();
    private final Item[] table;
    private final int[] versions = new int[4];
    private final Reading[] readings = {new Reading(), new Reading(), new Reading()};
    private final ArrayDeque<Runnable> steps = new ArrayDeque<>();
    private final int[] counts = new int[10];
    private int outcome = -1;
    /** How often each path length was taken, for the test to tell whether its runs meet them all. */
    final int[] pathLengths = new int[5];

    PlainModel(int items, int ways) {
        int number = items < 1 || items > 32 ? 12 : items;
        this.ways = ways < 1 || ways > 4 ? 2 : ways;
        for (int i = 0; i < number; i++) {
            this.items.add(new Item());
        }
        table = new Item[8 * this.ways];
    }

    private boolean expired(Item item) {
        return item.expiry != 0 && !(item.expiry > counts[7]);
    }

    private int findIn(int bucket, int key, boolean counted) {
        for (int s = 0; s < ways; s++) {
            Item item = table[ways * bucket + s];
            if (item != null && item.key == key) {
                return ways * bucket + s;
            }
            if (item != null && Keys.tag(item.key) == Keys.tag(key) && counted) {
                counts[5]++;
            }
        }
        return -1;
    }

    private int find(int key, boolean counted) {
        int place = findIn(Keys.first(key), key, counted);
        return place >= 0 ? place : findIn(Keys.second(key), key, counted);
    }

    private void remove(Item item) {
        for (int p = 0; p < table.length; p++) {
            if (table[p] == item) {
                table[p] = null;
            }
        }
        item.used = false;
        versions[Keys.stripe(item.key)] += 2;
    }

    private void store(Item item, int life) {
        counts[9]++;
        item.token = counts[9];
        item.expiry = life == 0 ? 0 : counts[7] + life;
    }

    boolean write(int kind, int key, int value, int life, int token) {
        if (outcome == 0 || kind < 0 || kind > 4 || life < 0 || life > 1000) {
            return false;
        }
        outcome = 0;
        steps.clear();
        steps.add(() -> firstStep(kind, key, value, life, token));
        return true;
    }

    private void firstStep(int kind, int key, int value, int life, int token) {
        int place = find(key, true);
        Item item = place < 0 ? null : table[place];
        if (item != null && expired(item)) {
            remove(item);
            counts[6]++;
            item = null;
        }
        if (item == null) {
            int[] outcomes = {0, 0, 2, 4, 4};
            outcome = outcomes[kind];
            if (outcome == 0) {
                insert(key, value, life);
            }
            return;
        }
        if (kind == 1) {
            outcome = 2;
        } else if (kind == 3 && item.token != token) {
            outcome = 3;
        } else if (kind == 4) {
            remove(item);
            outcome = 5;
        } else {
            change(item, value, life);
        }
    }

    private void change(Item item, int value, int life) {
        int stripe = Keys.stripe(item.key);
        steps.add(() -> {
            versions[stripe]++;
            item.value = value;
        });
        steps.add(() -> {
            store(item, life);
            versions[stripe]++;
            outcome = 1;
        });
    }

    private void insert(int key, int value, int life) {
        if (items.stream().allMatch(item -> item.used)) {
            steps.add(this::evict);
        }
        steps.add(() -> seekPath(key, value, life));
    }

    private void evict() {
        while (items.get(counts[8]).bit) {
            items.get(counts[8]).bit = false;
            counts[8] = (counts[8] + 1) % items.size();
        }
        remove(items.get(counts[8]));
        counts[8] = (counts[8] + 1) % items.size();
        counts[1]++;
    }

    private void seekPath(int key, int value, int life) {
        for (int d = 0; d <= 4; d++) {
            for (int bucket : new int[] {Keys.first(key), Keys.second(key)}) {
                int[] path = pathFrom(bucket, new int[d + 1], 0);
                if (path != null) {
                    pathLengths[d]++;
                    follow(path, key, value, life);
                    return;
                }
            }
        }
        outcome = 6;
    }

    /** The first of all paths of the length of the row whose place number depth is in this bucket. */
    private int[] pathFrom(int bucket, int[] path, int depth) {
        for (int p = ways * bucket; p < ways * (bucket + 1); p++) {
            path[depth] = p;
            if (depth == path.length - 1) {
                if (table[p] == null) {
                    return path;
                }
            } else if (table[p] != null) {
                int[] found = pathFrom(Keys.other(bucket, table[p].key), path, depth + 1);
                if (found != null) {
                    return found;
                }
            }
        }
        return null;
    }

    private void follow(int[] path, int key, int value, int life) {
        for (int k = path.length - 2; k >= 0; k--) {
            int from = path[k];
            int to = path[k + 1];
            int stripe = Keys.stripe(table[from].key);
            steps.add(() -> {
                versions[stripe]++;
                table[to] = table[from];
            });
            steps.add(() -> {
                table[from] = null;
                versions[stripe]++;
                counts[2]++;
            });
        }
        steps.add(() -> {
            Item item = items.stream().filter(i -> !i.used).findFirst().orElseThrow();
            item.used = true;
            item.key = key;
            item.value = value;
            item.bit = false;
            store(item, life);
            table[path[0]] = item;
            outcome = 1;
        });
    }

    int work(int n) {
        int done = 0;
        while (n >= 1 && n <= 50 && done < n && outcome == 0) {
            steps.remove().run();
            done++;
        }
        return done;
    }

    int outcome() {
        return outcome;
    }

    private boolean none(int r) {
        return r < 0 || r > 2;
    }

    private boolean idle(int r) {
        return none(r) || readings[r].state == 0 || readings[r].state > 6;
    }

    boolean get(int r, int key) {
        if (none(r) || !idle(r)) {
            return false;
        }
        readings[r] = new Reading();
        readings[r].key = key;
        readings[r].state = 1;
        return true;
    }

    int step(int r) {
        if (idle(r)) {
            return -1;
        }
        Reading it = readings[r];
        it.state = nextState(it);
        return it.state;
    }

    private int nextState(Reading it) {
        int version = versions[Keys.stripe(it.key)];
        if (it.state == 1) {
            if (version % 2 != 0) {
                counts[4]++;
                return 1;
            }
            it.version = version;
            return 2;
        }
        if (it.state == 2 || it.state == 3) {
            int bucket = it.state == 2 ? Keys.first(it.key) : Keys.second(it.key);
            int place = findIn(bucket, it.key, true);
            it.item = place < 0 ? null : table[place];
            return place >= 0 ? 4 : it.state == 2 ? 3 : 5;
        }
        if (it.state == 4) {
            it.value = it.item.value;
            it.token = it.item.token;
            it.expiry = it.item.expiry;
            return 5;
        }
        return it.state == 5 ? afterCheck(it, version) : afterLocked(it);
    }

    private int afterCheck(Reading it, int version) {
        if (version != it.version) {
            counts[3]++;
            it.retries++;
            return it.retries == 3 ? 6 : 1;
        }
        if (it.item != null && (it.expiry == 0 || it.expiry > counts[7])) {
            it.item.bit = true;
            return 7;
        }
        return 8;
    }

    private int afterLocked(Reading it) {
        if (outcome == 0) {
            counts[4]++;
            return 6;
        }
        int place = find(it.key, true);
        if (place < 0 || expired(table[place])) {
            return 8;
        }
        it.value = table[place].value;
        it.token = table[place].token;
        table[place].bit = true;
        return 7;
    }

    int state(int r) {
        return none(r) ? -1 : readings[r].state;
    }

    int value(int r) {
        return state(r) == 7 ? readings[r].value : 0;
    }

    int token(int r) {
        return state(r) == 7 ? readings[r].token : 0;
    }

    boolean pass(int n) {
        boolean right = n >= 1 && n <= 1000;
        counts[7] += right ? n : 0;
        return right;
    }

    int where(int key) {
        return find(key, false);
    }

    int at(int p) {
        return p < 0 || p >= table.length || table[p] == null ? -1 : items.indexOf(table[p]);
    }

    int item(int i, int which) {
        if (!used(i) || which < 0 || which > 4) {
            return 0;
        }
        Item it = items.get(i);
        return new int[] {it.key, it.value, it.token, it.expiry, it.bit ? 1 : 0}[which];
    }

    boolean used(int i) {
        return i >= 0 && i < items.size() && items.get(i).used;
    }

    int version(int stripe) {
        return stripe < 0 || stripe > 3 ? -1 : versions[stripe];
    }

    int hash(int key) {
        return Keys.first(key) + 8 * Keys.second(key) + 64 * Keys.tag(key) + 1024 * Keys.stripe(key);
    }

    int count(int which) {
        if (which == 0) {
            return (int) items.stream().filter(item -> item.used).count();
        }
        return which < 0 || which > 9 ? -1 : counts[which];
    }
}
