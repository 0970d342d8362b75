/** Long runs of mixed calls, each answer held against that of the slow desk. */
public final class SlowDeskTest {
    private static final int RUNS = 3000;
    private static final int CALLS = 512;
    private static final int[] ODD = {-1, -2, 0, 2, 4, 33, 99, 100, 101, 299, 300, 524288, 524289,
        Integer.MIN_VALUE, Integer.MAX_VALUE};
    private static final int[] LENGTHS = {1, 2, 3, 5, 255, 1024, 8191, 65535, 65536, 131071, 262144,
        524276, 524281, 524283, 524285, 524286, 524287, 524288};

    private final LayoutDesk desk = new LayoutDesk();
    private final SlowDesk slow = new SlowDesk();
    private final Check check;
    private final int style;
    private long seed;
    private int lastRecord = 11;

    private SlowDeskTest(Check check, int run) {
        this.check = check;
        this.style = run % 6;
        this.seed = run * 7919L + 17;
    }

    public static void main(String[] args) {
        Check check = new Check();
        for (int run = 0; run < RUNS && check.isClean(); run++) {
            SlowDeskTest test = new SlowDeskTest(check, run);
            // Nothing is promised of later calls, but even they must not throw.
            int calls = run % 100 == 0 ? 8 * CALLS : CALLS;
            for (int i = 0; i < calls && check.isClean(); i++) {
                test.call("run " + run + ", call " + i + ": ");
            }
            test.compareAll("run " + run + ", at its end: ");
        }
        check.end();
    }

    private int upTo(int bound) {
        seed = seed * 6364136223846793005L + 1442695040888963407L;
        return (int) ((seed >>> 33) % bound);
    }

    private int anyType() {
        return upTo(40) == 0 ? ODD[upTo(ODD.length)]
                : upTo(3) == 0 ? upTo(desk.types() + 2) - 1 : upTo(11);
    }

    private int anyRecord() {
        return upTo(25) == 0 ? anyType() : upTo(5) == 0 ? 11 + upTo(desk.types()) : lastRecord;
    }

    private int anyLength() {
        int pick = upTo(30);
        return pick == 0 ? ODD[upTo(ODD.length)] : pick < 8 ? LENGTHS[upTo(LENGTHS.length)] : 1 + upTo(12);
    }

    private int anyWidth() {
        int pick = upTo(30);
        return pick == 0 ? ODD[upTo(ODD.length)] : pick < 15 ? 1 + upTo(32) : 1 + upTo(8);
    }

    /** Some runs make types above all, and some fill records, so that each limit is come to. */
    private void call(String at) {
        int pick = upTo(100);
        int making = style == 0 ? 70 : style == 1 ? 4 : 20;
        if (pick < making) {
            make(at);
        } else if (pick < 80) {
            add(at);
        } else {
            ask(at);
        }
    }

    private void make(String at) {
        int t = anyType();
        int pick = upTo(10);
        if (pick < 3) {
            check.due(at + "pointer(" + t + ")", desk.pointer(t), slow.pointer(t));
        } else if (pick < 6) {
            int n = anyLength();
            int base = upTo(3) == 0 ? 1 : t;
            check.due(at + "array(" + base + ", " + n + ")", desk.array(base, n), slow.array(base, n));
        } else {
            int kind = upTo(20) == 0 ? ODD[upTo(ODD.length)] : upTo(4) / 3;
            int made = desk.record(kind);
            check.due(at + "record(" + kind + ")", made, slow.record(kind));
            lastRecord = made < 0 ? lastRecord : made;
        }
    }

    private void add(String at) {
        int r = anyRecord();
        int pick = upTo(style == 1 ? 97 : 100);
        if (pick < 40) {
            int t = anyType();
            check.due(at + "field(" + r + ", " + t + ")", desk.field(r, t), slow.field(r, t));
        } else if (pick < 85) {
            int t = upTo(20) == 0 ? anyType() : 5 + upTo(2);
            int width = anyWidth();
            boolean named = upTo(5) != 0;
            check.due(at + "bits(" + r + ", " + t + ", " + width + ", " + named + ")",
                    desk.bits(r, t, width, named), slow.bits(r, t, width, named));
        } else if (pick < 97) {
            check.due(at + "separate(" + r + ")", desk.separate(r), slow.separate(r));
        } else {
            check.due(at + "finish(" + r + ")", desk.finish(r), slow.finish(r));
        }
    }

    private void ask(String at) {
        int t = anyType();
        int r = anyRecord();
        check.due(at + "types()", desk.types(), slow.types());
        check.due(at + "size(" + t + ")", desk.size(t), slow.size(t));
        check.due(at + "align(" + r + ")", desk.align(r), slow.align(r));
        check.due(at + "members(" + r + ")", desk.members(r), slow.members(r));
        int k = upTo(10) == 0 ? ODD[upTo(ODD.length)] : upTo(1 + Math.max(0, desk.members(r)));
        int what = upTo(20) == 0 ? ODD[upTo(ODD.length)] : upTo(4);
        check.due(at + "member(" + r + ", " + k + ", " + what + ")",
                desk.member(r, k, what), slow.member(r, k, what));
    }

    private void compareAll(String at) {
        check.due(at + "types()", desk.types(), slow.types());
        for (int t = 0; t <= desk.types(); t++) {
            check.due(at + "size(" + t + ")", desk.size(t), slow.size(t));
            check.due(at + "align(" + t + ")", desk.align(t), slow.align(t));
            check.due(at + "members(" + t + ")", desk.members(t), slow.members(t));
            for (int k = 0; k <= desk.members(t); k++) {
                for (int what = 0; what < 4; what++) {
                    check.due(at + "member(" + t + ", " + k + ", " + what + ")",
                            desk.member(t, k, what), slow.member(t, k, what));
                }
            }
        }
    }
}
