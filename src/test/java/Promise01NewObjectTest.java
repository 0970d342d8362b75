public final class Promise01NewObjectTest {
    public static void main(String[] args) {
        Sentences sentences = new Sentences();
        sentences.test("1: The types 0 to 10.", Promise01NewObjectTest::types);
        sentences.test("1: .. and no others", Promise01NewObjectTest::noOthers);
        sentences.test("1: .. in each new object", Promise01NewObjectTest::eachObject);
        sentences.end();
    }

    private static void types(Check check) {
        int[] sizes = {0, 1, 1, 2, 2, 4, 4, 8, 8, 4, 8};
        int[] alignments = {0, 1, 1, 2, 2, 4, 4, 4, 4, 4, 4};
        Desk desk = new Desk();
        check.due("types()", desk.types(), 11);
        for (int t = 0; t < 11; t++) {
            check.due("size(" + t + ")", desk.size(t), sizes[t]);
            check.due("align(" + t + ")", desk.align(t), alignments[t]);
            check.due("members(" + t + ")", desk.members(t), -1);
            check.due("member(" + t + ", 0, 0)", desk.member(t, 0, 0), -1);
        }
    }

    private static void noOthers(Check check) {
        Desk desk = new Desk();
        check.due("size(-1)", desk.size(-1), -1);
        check.due("size(11)", desk.size(11), -1);
        check.due("align(-1)", desk.align(-1), -1);
        check.due("align(11)", desk.align(11), -1);
        check.due("members(11)", desk.members(11), -1);
        check.due("pointer(11)", desk.pointer(11), -1);
        // None of the first eleven is a pointer or an array: whatever is made first gets number 11.
        for (int t = 0; t < 11; t++) {
            check.due("pointer(" + t + ")", new Desk().pointer(t), 11);
            check.due("array(" + t + ", 1)", new Desk().array(t, 1), t == 0 ? -2 : 11);
        }
        check.due("record(0)", new Desk().record(0), 11);
    }

    private static void eachObject(Check check) {
        Desk desk = new Desk();
        desk.record(0);
        desk.pointer(3);
        desk.array(3, 3);
        Desk other = new Desk();
        check.due("the other's types()", other.types(), 11);
        check.due("the other's size(12)", other.size(12), -1);
        check.due("the other's pointer(3)", other.pointer(3), 11);
        check.due("the other's record(1)", other.record(1), 12);
        other.field(12, 10);
        check.due("the first one's members(12)", desk.members(12), -1);
        check.due("the first one's types()", desk.types(), 14);
    }
}
