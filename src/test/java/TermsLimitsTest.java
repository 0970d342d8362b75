public final class TermsLimitsTest {
    public static void main(String[] args) {
        Sentences sentences = new Sentences();
        sentences.test("Terms: Sizes are at most 524288 ..", TermsLimitsTest::greatest);
        sentences.test("Terms: .. a call that would make a type greater is refused", TermsLimitsTest::greater);
        sentences.test("Terms: .. where only a place in the middle is too far", TermsLimitsTest::farPlaces);
        sentences.test("Terms: A call that is refused changes nothing: in a run of many",
                TermsLimitsTest::refusedInARun);
        sentences.end();
    }

    private static void greatest(Check check) {
        Desk desk = new Desk();
        check.due("array(1, 524288)", desk.size(desk.array(1, 524288)), 524288);
        check.due("array(3, 262144)", desk.size(desk.array(3, 262144)), 524288);
        check.due("array(5, 131072)", desk.size(desk.array(5, 131072)), 524288);
        check.due("array(10, 65536)", desk.size(desk.array(10, 65536)), 524288);
        check.due("array of the greatest", desk.size(desk.array(11, 1)), 524288);
        for (int kind = 0; kind < 2; kind++) {
            int r = desk.record(kind);
            check.due("field", desk.field(r, 11), 0);
            check.due("finish", desk.finish(r), 524288);
            check.due("array of it", desk.size(desk.array(r, 1)), 524288);
            check.due("two of it", desk.array(r, 2), -3);
            int outer = desk.record(0);
            check.due("field of it", desk.field(outer, r), 0);
            check.due("finish", desk.finish(outer), 524288);
        }
    }

    private static void greater(Check check) {
        Story limit = new Story().recordReachingTo(0, 524288);
        Unchanged.due(check, limit, "array(1, 524289)", d -> d.array(1, 524289), -1);
        Unchanged.due(check, limit, "array(11, 2)", d -> d.array(11, 2), -3);
        Unchanged.due(check, limit, "field(12, 1)", d -> d.field(12, 1), -4);
        Unchanged.due(check, limit, "field(12, 11)", d -> d.field(12, 11), -4);
        Unchanged.due(check, limit, "bits(12, 5, 1)", d -> d.bits(12, 5, 1, true), -4);
        Unchanged.due(check, limit, "bits(12, 5, 1), unnamed", d -> d.bits(12, 5, 1, false), -4);
        Story less = new Story().recordReachingTo(0, 524287);
        check.due("a byte behind 524287", less.tell().field(12, 1), 1);
        Unchanged.due(check, less, "2 bytes behind 524287", d -> d.field(12, 3), -4);
        Unchanged.due(check, less, "a bit behind 524287", d -> d.bits(12, 6, 1, true), -4);
    }

    /** A struct of many great members: their ends add up, and none wraps round. */
    private static void farPlaces(Check check) {
        Story quarters = new Story().then(d -> d.array(1, 131072)).then(d -> d.record(0))
                .times(3, d -> d.field(12, 11));
        Desk desk = quarters.tell();
        check.due("the fourth quarter", desk.field(12, 11), 3);
        check.due("its place", desk.member(12, 3, 0), 393216);
        check.due("the fifth", desk.field(12, 11), -4);
        check.due("finish", desk.finish(12), 524288);
        Story byteMore = quarters.then(d -> d.field(12, 1));
        Unchanged.due(check, byteMore, "the fourth behind a byte", d -> d.field(12, 11), -4);
        Unchanged.due(check, quarters.then(d -> d.bits(12, 5, 1, false)), "the fourth behind a unit",
                d -> d.field(12, 11), -4);
    }

    /** One desk hears all calls, the other those alone that were taken. */
    private static void refusedInARun(Check check) {
        for (int run = 0; run < 60 && check.isClean(); run++) {
            MixedCalls calls = new MixedCalls(run);
            Story all = new Story();
            Story taken = new Story();
            Desk desk = new Desk();
            for (int i = 0; i < 400; i++) {
                MixedCalls.Call call = calls.nextChange();
                int answer = call.made().applyAsInt(desk);
                all = all.then(call.made());
                if (!call.isRefused(answer)) {
                    taken = taken.then(call.made());
                }
            }
            check.due("run " + run + ", the same in the end", Picture.of(all).equals(Picture.of(taken)), true);
        }
    }
}
