public final class Promise11AlignTest {
    public static void main(String[] args) {
        Sentences sentences = new Sentences();
        sentences.test("11: The alignment of a type", Promise11AlignTest::alignments);
        sentences.test("11: of an open record, that so far", Promise11AlignTest::soFar);
        sentences.test("11: -1 if there is none", Promise11AlignTest::none);
        sentences.test("11: .. asking changes nothing", Promise11AlignTest::asking);
        sentences.end();
    }

    private static void alignments(Check check) {
        int[] alignments = {0, 1, 1, 2, 2, 4, 4, 4, 4, 4, 4, 2, 4, 2, 4, 4, 0};
        Desk desk = Stories.busy().tell();
        for (int t = 0; t < alignments.length; t++) {
            check.due("align(" + t + ")", desk.align(t), alignments[t]);
        }
        desk.finish(Stories.STRUCT);
        desk.finish(Stories.UNION);
        check.due("a finished struct", desk.align(Stories.STRUCT), 4);
        check.due("a finished union", desk.align(Stories.UNION), 4);
    }

    private static void soFar(Check check) {
        for (int kind = 0; kind < 2; kind++) {
            Desk desk = new Desk();
            int r = desk.record(kind);
            check.due("without members", desk.align(r), 0);
            desk.separate(r);
            check.due("with a break", desk.align(r), 0);
            desk.field(r, 2);
            check.due("with a byte", desk.align(r), 1);
            desk.field(r, 4);
            check.due("with 2 bytes", desk.align(r), 2);
            desk.field(r, 1);
            check.due("with a byte more", desk.align(r), 2);
            desk.field(r, 0);
            desk.bits(r, 5, 33, true);
            check.due("with refused ones", desk.align(r), 2);
            desk.field(r, 10);
            check.due("with 8 bytes", desk.align(r), 4);
            desk.field(r, 3);
            check.due("with 2 bytes more", desk.align(r), 4);
            desk.finish(r);
            check.due("finished", desk.align(r), 4);
        }
    }

    private static void none(Check check) {
        for (int t : Stories.NO_TYPES) {
            Unchanged.due(check, Stories.busy(), "align(" + t + ")", d -> d.align(t), -1);
        }
        Unchanged.due(check, Stories.busy(), "align(17) of 17", d -> d.align(17), -1);
        Desk desk = new Desk();
        check.due("align(10)", desk.align(10), 4);
        check.due("align(11)", desk.align(11), -1);
        desk.array(3, 2);
        check.due("align(11), made", desk.align(11), 2);
        check.due("align(12)", desk.align(12), -1);
        Desk full = Stories.full().tell();
        check.due("align(299) of 300", full.align(299), 1);
        check.due("align(300) of 300", full.align(300), -1);
    }

    private static void asking(Check check) {
        Unchanged.due(check, Stories.busy(), "align of an open one", d -> d.align(Stories.STRUCT), 4);
        Unchanged.due(check, Stories.busy(), "align of an empty one", d -> d.align(Stories.EMPTY), 0);
        Unchanged.due(check, Stories.busy(), "align of a finished one", d -> d.align(Stories.FINISHED), 2);
    }
}
