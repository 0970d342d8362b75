public final class Promise13MemberTest {
    private static final int[] OTHERS = {-1, -2, 4, 5, 100, Integer.MIN_VALUE, Integer.MAX_VALUE};

    public static void main(String[] args) {
        Sentences sentences = new Sentences();
        sentences.test("13: its place (0), its type (1), its lowest bit (2) and its width (3)",
                Promise13MemberTest::answers);
        sentences.test("13: both 0 for a plain one", Promise13MemberTest::plain);
        sentences.test("13: of a bit-field that of its unit", Promise13MemberTest::unit);
        sentences.test("13: -1 if there is none: no member k", Promise13MemberTest::noMember);
        sentences.test("13: -1 if there is none: no record r", Promise13MemberTest::noRecord);
        sentences.test("13: -1 if what is another number", Promise13MemberTest::otherWhat);
        sentences.test("13: .. asking changes nothing", Promise13MemberTest::asking);
        sentences.end();
    }

    private static void answers(Check check) {
        Desk desk = new Desk();
        int r = desk.record(0);
        int to = desk.pointer(r);
        desk.field(r, 3);
        desk.bits(r, 6, 10, true);
        desk.bits(r, 5, 2, false);
        desk.bits(r, 5, 11, true);
        desk.field(r, to);
        int[][] want = {{0, 3, 0, 0}, {4, 6, 0, 10}, {4, 5, 12, 11}, {8, to, 0, 0}};
        // Asked while it is open and again when it is finished.
        for (int time = 0; time < 2; time++) {
            for (int k = 0; k < 4; k++) {
                for (int what = 0; what < 4; what++) {
                    check.due("member(" + k + ", " + what + ")", desk.member(r, k, what), want[k][what]);
                }
            }
            check.due("the next", desk.member(r, 4, 0), -1);
            desk.finish(r);
        }
    }

    private static void plain(Check check) {
        for (int kind = 0; kind < 2; kind++) {
            Desk desk = new Desk();
            int r = desk.record(kind);
            desk.bits(r, 5, 7, true);
            desk.field(r, 5);
            check.due("its type", desk.member(r, 1, 1), 5);
            check.due("its lowest bit", desk.member(r, 1, 2), 0);
            check.due("its width", desk.member(r, 1, 3), 0);
        }
    }

    private static void unit(Check check) {
        Desk desk = new Desk();
        int r = desk.record(0);
        desk.field(r, 1);
        for (int k = 1; k <= 5; k++) {
            desk.bits(r, 5, 8, true);
            check.due("place of bit-field " + k, desk.member(r, k, 0), k < 5 ? 4 : 8);
            check.due("its lowest bit", desk.member(r, k, 2), (k - 1) % 4 * 8);
        }
    }

    private static void noMember(Check check) {
        int[] wrong = {-1, -2, 2, 3, 99, 100, 101, Integer.MIN_VALUE, Integer.MAX_VALUE};
        int[] records = {Stories.FINISHED, Stories.STRUCT, Stories.UNION};
        for (int r : records) {
            check.due("member(r, 0, 1)", Stories.busy().tell().member(r, 0, 1) > 0, true);
            check.due("member(r, 1, 1)", Stories.busy().tell().member(r, 1, 1) > 0, true);
            for (int k : wrong) {
                for (int what = 0; what < 4; what++) {
                    check.due("member(" + r + ", " + k + ", " + what + ")",
                            Stories.busy().tell().member(r, k, what), -1);
                }
                Unchanged.due(check, Stories.busy(), "member(" + r + ", " + k + ", 0)", d -> d.member(r, k, 0), -1);
            }
        }
        for (int what = 0; what < 4; what++) {
            check.due("of an empty one", Stories.busy().tell().member(Stories.EMPTY, 0, what), -1);
        }
        Desk hundred = Stories.withMembers(0, 100).tell();
        check.due("member 99", hundred.member(11, 99, 0), 198);
        check.due("member 100", hundred.member(11, 100, 0), -1);
        hundred.bits(11, 5, 1, false);
        check.due("an unnamed one", hundred.member(11, 100, 0), -1);
    }

    private static void noRecord(Check check) {
        int[] others = {0, 1, 5, 6, 10, Stories.POINTER, Stories.ARRAY, 17};
        for (int r : others) {
            for (int what = 0; what < 4; what++) {
                check.due("member(" + r + ", 0, " + what + ")", Stories.busy().tell().member(r, 0, what), -1);
            }
            Unchanged.due(check, Stories.busy(), "member(" + r + ", 0, 0)", d -> d.member(r, 0, 0), -1);
        }
        for (int r : Stories.NO_TYPES) {
            Unchanged.due(check, Stories.busy(), "member(" + r + ", 0, 0)", d -> d.member(r, 0, 0), -1);
        }
        Desk full = new Story().fillTo(299).then(d -> d.record(1)).then(d -> d.field(299, 3)).tell();
        check.due("member(299, 0, 1) of 300", full.member(299, 0, 1), 3);
        check.due("member(300, 0, 1) of 300", full.member(300, 0, 1), -1);
    }

    private static void otherWhat(Check check) {
        int[] records = {Stories.FINISHED, Stories.STRUCT, Stories.UNION};
        for (int r : records) {
            for (int k = 0; k < 2; k++) {
                check.due("member(r, k, 0)", Stories.busy().tell().member(r, k, 0) >= 0, true);
                check.due("member(r, k, 3)", Stories.busy().tell().member(r, k, 3) >= 0, true);
                for (int what : OTHERS) {
                    check.due("member(" + r + ", " + k + ", " + what + ")",
                            Stories.busy().tell().member(r, k, what), -1);
                }
            }
            Unchanged.due(check, Stories.busy(), "member(" + r + ", 0, 4)", d -> d.member(r, 0, 4), -1);
            Unchanged.due(check, Stories.busy(), "member(" + r + ", 1, -1)", d -> d.member(r, 1, -1), -1);
        }
    }

    private static void asking(Check check) {
        Unchanged.due(check, Stories.busy(), "place of a bit-field", d -> d.member(Stories.STRUCT, 1, 0), 4);
        Unchanged.due(check, Stories.busy(), "its type", d -> d.member(Stories.STRUCT, 1, 1), 5);
        Unchanged.due(check, Stories.busy(), "its lowest bit", d -> d.member(Stories.STRUCT, 1, 2), 0);
        Unchanged.due(check, Stories.busy(), "its width", d -> d.member(Stories.STRUCT, 1, 3), 4);
    }
}
