import java.util.TreeSet;

/** Numbers at the edges of a range and beyond it. */
final class Numbers {
    private Numbers() {
    }

    /** The least and the greatest number of the range and those next to them inside it. */
    static int[] edges(int least, int most) {
        TreeSet<Integer> chosen = new TreeSet<>();
        for (int n : new int[] {least, least + 1, most - 1, most}) {
            if (n >= least && n <= most) {
                chosen.add(n);
            }
        }
        return chosen.stream().mapToInt(n -> n).toArray();
    }

    /** The numbers next to the range, numbers far off, and those that a cut to 8 or 16 bits would bring into it. */
    static int[] beyond(int least, int most) {
        TreeSet<Integer> chosen = new TreeSet<>();
        int[] all = {
            least - 1, least - 2, most + 1, most + 2, -least, -most, least - 100, most + 100,
            least + 256, most + 256, least - 256, most - 256, least + 65536, most + 65536, least - 65536, most - 65536,
            least + Integer.MIN_VALUE, most + Integer.MIN_VALUE,
            Integer.MIN_VALUE, Integer.MIN_VALUE + 1, Integer.MAX_VALUE - 1, Integer.MAX_VALUE,
        };
        for (int n : all) {
            if (n < least || n > most) {
                chosen.add(n);
            }
        }
        return chosen.stream().mapToInt(n -> n).toArray();
    }
}
