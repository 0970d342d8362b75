/** Stories that several tests begin with, and numbers that are wrong in all of them. */
final class Stories {
    static final int GREATEST = 524288;

    /** The types of the busy story. */
    static final int FINISHED = 11;
    static final int POINTER = 12;
    static final int ARRAY = 13;
    static final int STRUCT = 14;
    static final int UNION = 15;
    static final int EMPTY = 16;
    static final int BUSY_TYPES = 17;

    /** Numbers that are no type of any desk. */
    static final int[] NO_TYPES = {-1, -2, 300, 301, 1 << 20, Integer.MIN_VALUE, Integer.MAX_VALUE};

    private Stories() {
    }

    /** One type of each sort; the open struct ends in a unit with free bits. */
    static Story busy() {
        return new Story()
                .then(desk -> desk.record(0))
                .then(desk -> desk.field(FINISHED, 3))
                .then(desk -> desk.field(FINISHED, 1))
                .then(desk -> desk.finish(FINISHED))
                .then(desk -> desk.pointer(FINISHED))
                .then(desk -> desk.array(3, 5))
                .then(desk -> desk.record(0))
                .then(desk -> desk.record(1))
                .then(desk -> desk.record(0))
                .then(desk -> desk.field(UNION, ARRAY))
                .then(desk -> desk.bits(UNION, 6, 3, true))
                .then(desk -> desk.field(STRUCT, 1))
                .then(desk -> desk.bits(STRUCT, 5, 4, true));
    }

    /** The busy story with 300 types. */
    static Story full() {
        return busy().fillTo(300);
    }

    /** Type 11 is an open record with that many members of 2 bytes. */
    static Story withMembers(int kind, int count) {
        return new Story().then(desk -> desk.record(kind)).times(count, desk -> desk.field(11, 3));
    }
}
