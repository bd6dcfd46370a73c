import java.util.NoSuchElementException;

/** What calls are refused with, and the numbers that no station has. */
final class Wrong {
    static final Class<IndexOutOfBoundsException> INDEX = IndexOutOfBoundsException.class;
    static final Class<IllegalArgumentException> ARGUMENT = IllegalArgumentException.class;
    static final Class<IllegalStateException> STATE = IllegalStateException.class;
    static final Class<NoSuchElementException> ELEMENT = NoSuchElementException.class;
    static final Class<UnsupportedOperationException> TOO_MUCH =
            UnsupportedOperationException.class;

    private static final int[] STATIONS = {-1, 5, Integer.MIN_VALUE, Integer.MAX_VALUE};

    private Wrong() {
    }

    static int[] stations() {
        return STATIONS.clone();
    }

    /** The first ones beside 0 .. bound - 1, and the farthest. */
    static int[] beside(int bound) {
        return new int[] {-1, bound, Integer.MIN_VALUE, Integer.MAX_VALUE};
    }
}
