/** Desks in the states that several tests begin with. */
final class Desks {
    static final int MAX_TYPES = 300;
    static final int MAX_SIZE = 524288;

    /** Numbers that are no type of a desk with at most 300 types. */
    static final int[] NO_TYPES = {-1, -2, 300, 301, 1 << 20, Integer.MIN_VALUE, Integer.MAX_VALUE};

    private Desks() {
    }

    /** Adds arrays of type 1 with lengths that no test uses itself, till there are that many types. */
    static void fillTo(LayoutDesk desk, int count) {
        for (int i = 0; i < MAX_TYPES && desk.types() < count; i++) {
            desk.array(1, 1000 + i);
        }
    }

    static void addChars(LayoutDesk desk, int r, int count) {
        for (int i = 0; i < count; i++) {
            desk.field(r, 1);
        }
    }

    /** A new open struct that reaches to the given place, by one member of bytes. */
    static int structReachingTo(LayoutDesk desk, int place) {
        int bytes = desk.array(1, place);
        int r = desk.record(0);
        desk.field(r, bytes);
        return r;
    }
}
