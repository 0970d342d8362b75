import java.util.ArrayList;
import java.util.List;
import java.util.function.ToIntFunction;

/** Calls that can be made again on one new desk after another; it never changes, but is added to. */
final class Story {
    private static final int BYTE = 1;

    private final List<ToIntFunction<? super Desk>> calls;

    Story() {
        this(List.of());
    }

    private Story(List<ToIntFunction<? super Desk>> calls) {
        this.calls = calls;
    }

    Story then(ToIntFunction<? super Desk> call) {
        return times(1, call);
    }

    Story times(int count, ToIntFunction<? super Desk> call) {
        List<ToIntFunction<? super Desk>> longer = new ArrayList<>(calls);
        for (int i = 0; i < count; i++) {
            longer.add(call);
        }
        return new Story(longer);
    }

    Story thenSeparate(int r) {
        return then(desk -> desk.separate(r) ? 1 : 0);
    }

    /** Makes arrays of bytes, of lengths that no test uses itself, till there are that many types. */
    Story fillTo(int types) {
        Story filled = this;
        for (int t = tell().types(); t < types; t++) {
            int length = 1000 + t;
            filled = filled.then(desk -> desk.array(BYTE, length));
        }
        return filled;
    }

    /** On a new desk alone: type 11 an array of bytes, type 12 an open record that holds it. */
    Story recordReachingTo(int kind, int place) {
        return then(desk -> desk.array(BYTE, place))
                .then(desk -> desk.record(kind))
                .then(desk -> desk.field(12, 11));
    }

    Desk tell() {
        Desk desk = new Desk();
        for (ToIntFunction<? super Desk> call : calls) {
            call.applyAsInt(desk);
        }
        return desk;
    }

    /** What the last call answers. */
    int end() {
        Desk desk = new Desk();
        int answer = 0;
        for (ToIntFunction<? super Desk> call : calls) {
            answer = call.applyAsInt(desk);
        }
        return answer;
    }
}
