import java.util.stream.IntStream;

/** Ints at and beyond the ends of the document's ranges. */
final class Edges {
    static final int[] NO_USERS = outside(0, 3);
    static final int[] NO_BLOCKS = outside(0, 15);
    static final int[] NO_SLOTS = outside(0, 2);
    static final int[] NO_DRIVERS = outside(0, 1);
    static final int[] NO_SERVERS = outside(0, 1);
    static final int[] NO_CHARACTERS = outside(32, 126);
    static final int[] NO_FAULTS = outside(0, 3);

    /** Ints that a block may be; among them those that answers use for "none", "empty" and "failed". */
    static final int[] VALUES = {0, 1, -1, -2, -5, Integer.MIN_VALUE, Integer.MAX_VALUE};

    private Edges() {
    }

    /** The ints next to the range, the ends of int, and such as fall into the range if upper bits are lost. */
    static int[] outside(int least, int greatest) {
        return IntStream.of(least - 1, least - 2, greatest + 1, greatest + 2, -greatest, -greatest - 1,
                least + (1 << 8), greatest + (1 << 8), least + (1 << 16), greatest + (1 << 16), least + (1 << 31),
                greatest + (1 << 31), Integer.MIN_VALUE, Integer.MIN_VALUE + 1, Integer.MAX_VALUE - 1,
                Integer.MAX_VALUE)
                .filter(n -> n < least || n > greatest).distinct().toArray();
    }
}
