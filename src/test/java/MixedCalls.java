import java.util.function.ToIntFunction;

/** A long run of calls of all sorts, each with what the slow desk answers; the same for each number. */
final class MixedCalls {
    private static final int[] ODD = {-1, -2, 0, 2, 4, 33, 99, 100, 101, 299, 300, 524288, 524289,
        Integer.MIN_VALUE, Integer.MAX_VALUE};
    private static final int[] LENGTHS = {1, 2, 3, 5, 255, 1024, 8191, 65535, 65536, 131071, 262144,
        524276, 524281, 524283, 524285, 524286, 524287, 524288};

    record Call(String text, ToIntFunction<Face> made, int want) {
        boolean isRefused(int answer) {
            return text.startsWith("separate") ? answer == 0 : answer < 0;
        }
    }

    private final SlowDesk slow = new SlowDesk();
    private final int style;
    private long seed;
    private int lastRecord = 11;

    MixedCalls(int run) {
        this.style = run % 6;
        this.seed = run * 7919L + 17;
    }

    int upTo(int bound) {
        seed = seed * 6364136223846793005L + 1442695040888963407L;
        return (int) ((seed >>> 33) % bound);
    }

    /** A change or, now and then, a question. */
    Call next() {
        return upTo(5) == 0 ? nextQuestion() : nextChange();
    }

    /** Some runs make types above all, and some fill records, so that each limit is come to. */
    Call nextChange() {
        int making = style == 0 ? 85 : style == 1 ? 4 : 25;
        return upTo(100) < making ? make() : add();
    }

    Call nextQuestion() {
        int t = anyType();
        int r = anyRecord();
        switch (upTo(5)) {
            case 0:
                return call("types()", Face::types);
            case 1:
                return call("size(" + t + ")", desk -> desk.size(t));
            case 2:
                return call("align(" + r + ")", desk -> desk.align(r));
            case 3:
                return call("members(" + r + ")", desk -> desk.members(r));
            default:
                int k = upTo(10) == 0 ? anyOdd() : upTo(1 + Math.max(0, slow.members(r)));
                int what = upTo(20) == 0 ? anyOdd() : upTo(4);
                return call("member(" + r + ", " + k + ", " + what + ")", desk -> desk.member(r, k, what));
        }
    }

    private Call make() {
        int t = anyType();
        int pick = upTo(10);
        if (pick < 3) {
            return call("pointer(" + t + ")", desk -> desk.pointer(t));
        }
        if (pick < 6) {
            int n = anyLength();
            int base = upTo(3) == 0 ? 1 : t;
            return call("array(" + base + ", " + n + ")", desk -> desk.array(base, n));
        }
        int kind = upTo(20) == 0 ? anyOdd() : upTo(4) / 3;
        Call made = call("record(" + kind + ")", desk -> desk.record(kind));
        lastRecord = made.want < 0 ? lastRecord : made.want;
        return made;
    }

    private Call add() {
        int r = anyRecord();
        int pick = upTo(style == 1 ? 97 : 100);
        if (pick < 40) {
            int t = anyType();
            return call("field(" + r + ", " + t + ")", desk -> desk.field(r, t));
        }
        if (pick < 85) {
            int t = upTo(20) == 0 ? anyType() : 5 + upTo(2);
            int width = anyWidth();
            boolean named = upTo(5) != 0;
            return call("bits(" + r + ", " + t + ", " + width + ", " + named + ")",
                    desk -> desk.bits(r, t, width, named));
        }
        if (pick < 97) {
            return call("separate(" + r + ")", desk -> desk.separate(r) ? 1 : 0);
        }
        return call("finish(" + r + ")", desk -> desk.finish(r));
    }

    private Call call(String text, ToIntFunction<Face> made) {
        return new Call(text, made, made.applyAsInt(slow));
    }

    private int anyOdd() {
        return ODD[upTo(ODD.length)];
    }

    private int anyType() {
        return upTo(40) == 0 ? anyOdd() : upTo(3) == 0 ? upTo(slow.types() + 2) - 1 : upTo(11);
    }

    private int anyRecord() {
        return upTo(25) == 0 ? anyType() : upTo(5) == 0 ? 11 + upTo(slow.types()) : lastRecord;
    }

    private int anyLength() {
        int pick = upTo(30);
        return pick == 0 ? anyOdd() : pick < 8 ? LENGTHS[upTo(LENGTHS.length)] : 1 + upTo(12);
    }

    private int anyWidth() {
        int pick = upTo(30);
        return pick == 0 ? anyOdd() : pick < 15 ? 1 + upTo(32) : 1 + upTo(8);
    }
}
