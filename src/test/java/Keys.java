/** Finds keys by their buckets, tag and stripe, from the document's formula and not from the program's. */
final class Keys {
    static final int ANY = -1;

    private Keys() {
    }

    private static int mixed(int key) {
        return (key ^ (key >>> 15)) * 1368264107;
    }

    static int tag(int key) {
        return mixed(key) >>> 28;
    }

    static int first(int key) {
        return mixed(key) >>> 25 & 7;
    }

    static int stripe(int key) {
        return mixed(key) >>> 23 & 3;
    }

    static int other(int bucket, int key) {
        return bucket ^ (1 + tag(key) % 7);
    }

    static int second(int key) {
        return other(first(key), key);
    }

    /** Keys spread over the buckets, so that with four slots a bucket each of 32 has a place in its first one. */
    static int spread(int n) {
        return nth(n / 8, n % 8, n % 8 ^ 1);
    }

    /** The n-th key (from 0) upwards from 0 with this first and second bucket. */
    static int nth(int n, int first, int second) {
        return nth(n, first, second, ANY, ANY);
    }

    static int nth(int n, int first, int second, int tag, int stripe) {
        int left = n;
        for (int key = 0; key < 1_000_000; key++) {
            if (first(key) == first && second(key) == second
                    && (tag == ANY || tag(key) == tag) && (stripe == ANY || stripe(key) == stripe)) {
                if (left == 0) {
                    return key;
                }
                left--;
            }
        }
        throw new IllegalArgumentException("there is no such key");
    }
}
