public final class Promise10SizeTest {
    public static void main(String[] args) {
        Sentences sentences = new Sentences();
        sentences.test("10: The size of a type", Promise10SizeTest::sizes);
        sentences.test("10: 0 for type 0 and open records", Promise10SizeTest::zero);
        sentences.test("10: -1 if there is none", Promise10SizeTest::none);
        sentences.test("10: .. asking changes nothing", Promise10SizeTest::asking);
        sentences.end();
    }

    private static void sizes(Check check) {
        int[] sizes = {0, 1, 1, 2, 2, 4, 4, 8, 8, 4, 8, 4, 4, 10};
        Desk desk = Stories.busy().tell();
        for (int t = 0; t < sizes.length; t++) {
            check.due("size(" + t + ")", desk.size(t), sizes[t]);
        }
        check.due("the least array", desk.size(desk.array(1, 1)), 1);
        check.due("the greatest array", desk.size(desk.array(1, 524288)), 524288);
    }

    private static void zero(Check check) {
        Desk desk = Stories.busy().tell();
        check.due("type 0", desk.size(0), 0);
        check.due("an open struct", desk.size(Stories.STRUCT), 0);
        check.due("an open union", desk.size(Stories.UNION), 0);
        check.due("an empty one", desk.size(Stories.EMPTY), 0);
        desk.finish(Stories.EMPTY);
        check.due("an empty one behind a refused finish", desk.size(Stories.EMPTY), 0);
        desk.finish(Stories.STRUCT);
        desk.finish(Stories.UNION);
        check.due("a struct", desk.size(Stories.STRUCT), 8);
        check.due("a union", desk.size(Stories.UNION), 12);
    }

    private static void none(Check check) {
        for (int t : Stories.NO_TYPES) {
            Unchanged.due(check, Stories.busy(), "size(" + t + ")", d -> d.size(t), -1);
        }
        Unchanged.due(check, Stories.busy(), "size(17) of 17", d -> d.size(17), -1);
        Desk desk = Stories.busy().tell();
        check.due("size(17)", desk.size(17), -1);
        desk.pointer(1);
        check.due("size(17), made", desk.size(17), 4);
        check.due("size(18)", desk.size(18), -1);
        Desk full = Stories.busy().fillTo(299).tell();
        check.due("size(299) of 299", full.size(299), -1);
        full.array(10, 3);
        check.due("size(299) of 300", full.size(299), 24);
        check.due("size(300) of 300", full.size(300), -1);
    }

    private static void asking(Check check) {
        Unchanged.due(check, Stories.busy(), "size of an open one", d -> d.size(Stories.STRUCT), 0);
        Unchanged.due(check, Stories.busy(), "size of an open union", d -> d.size(Stories.UNION), 0);
        Unchanged.due(check, Stories.busy(), "size of a finished one", d -> d.size(Stories.FINISHED), 4);
    }
}
