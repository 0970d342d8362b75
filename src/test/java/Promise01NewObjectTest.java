public final class Promise01NewObjectTest {
    public static void main(String[] args) {
        Check check = new Check();
        int[] sizes = {0, 1, 1, 2, 2, 4, 4, 8, 8, 4, 8};
        int[] alignments = {0, 1, 1, 2, 2, 4, 4, 4, 4, 4, 4};
        LayoutDesk desk = new LayoutDesk();
        check.due("types()", desk.types(), 11);
        for (int t = 0; t < 11; t++) {
            check.due("size(" + t + ")", desk.size(t), sizes[t]);
            check.due("align(" + t + ")", desk.align(t), alignments[t]);
            check.due("members(" + t + ")", desk.members(t), -1);
        }
        check.due("size(11)", desk.size(11), -1);
        check.due("align(11)", desk.align(11), -1);

        desk.record(0);
        desk.pointer(3);
        LayoutDesk other = new LayoutDesk();
        check.due("another desk's types()", other.types(), 11);
        check.due("another desk's size(12)", other.size(12), -1);
        check.end();
    }
}
