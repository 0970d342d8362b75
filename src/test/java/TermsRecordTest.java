public final class TermsRecordTest {
    private static final int[] OPEN = {Stories.STRUCT, Stories.UNION, Stories.EMPTY};

    public static void main(String[] args) {
        Sentences sentences = new Sentences();
        sentences.test("Terms: A RECORD is a struct or a union", TermsRecordTest::structOrUnion);
        sentences.test("Terms: it is OPEN till it is finished, and takes members", TermsRecordTest::open);
        sentences.test("Terms: an open record has no size yet", TermsRecordTest::noSize);
        sentences.test("Terms: MEMBERS are numbered from 0 in the order in which they were added",
                TermsRecordTest::numbered);
        sentences.test("Terms: A plain member of a struct stands at the next place that its alignment divides",
                TermsRecordTest::nextPlace);
        sentences.test("Terms: .. behind all that stands before it", TermsRecordTest::behindAll);
        sentences.test("Terms: .. the struct reaches to its end", TermsRecordTest::reaches);
        sentences.test("Terms: In a union each stands at 0", TermsRecordTest::unionPlaces);
        sentences.test("Terms: .. and the union reaches to the end of the longest", TermsRecordTest::unionReach);
        sentences.test("Terms: Finished, its size is where it reaches to, rounded up to its alignment",
                TermsRecordTest::rounded);
        sentences.end();
    }

    private static void structOrUnion(Check check) {
        Desk desk = new Desk();
        int pointer = desk.pointer(1);
        int array = desk.array(1, 2);
        int struct = desk.record(0);
        int union = desk.record(1);
        for (int t = 0; t <= union; t++) {
            boolean isRecord = t == struct || t == union;
            check.due("members(" + t + ")", desk.members(t), isRecord ? 0 : -1);
            check.due("separate(" + t + ")", desk.separate(t), isRecord);
            check.due("field(" + t + ", 3)", desk.field(t, 3), isRecord ? 0 : -1);
            check.due("field(" + t + ", pointer)", desk.field(t, pointer), isRecord ? 1 : -1);
            check.due("field(" + t + ", array)", desk.field(t, array), isRecord ? 2 : -1);
        }
        check.due("finish of the struct", desk.finish(struct), 12);
        check.due("finish of the union", desk.finish(union), 4);
        // They are records still, though they take nothing more.
        check.due("members of the struct", desk.members(struct), 3);
        check.due("members of the union", desk.members(union), 3);
    }

    private static void open(Check check) {
        for (int r : OPEN) {
            Desk desk = Stories.busy().tell();
            int next = desk.members(r);
            check.due("field", desk.field(r, 1), next);
            check.due("bits", desk.bits(r, 5, 1, true), next + 1);
            check.due("separate", desk.separate(r), true);
            check.due("finish", desk.finish(r) > 0, true);
            check.due("field, finished", desk.field(r, 1), -1);
            check.due("bits, finished", desk.bits(r, 5, 1, true), -1);
            check.due("separate, finished", desk.separate(r), false);
            check.due("finish, finished", desk.finish(r), -1);
            check.due("members", desk.members(r), next + 2);
        }
    }

    private static void noSize(Check check) {
        for (int r : OPEN) {
            Story busy = Stories.busy();
            check.due("size(" + r + ")", busy.tell().size(r), 0);
            Unchanged.due(check, busy, "array(" + r + ", 1)", d -> d.array(r, 1), -2);
            Unchanged.due(check, busy, "field(" + r + ", " + r + ")", d -> d.field(r, r), -2);
        }
        // One that reaches far has none either.
        Desk desk = new Story().recordReachingTo(0, 524288).tell();
        check.due("size at the limit", desk.size(12), 0);
        check.due("array of it", desk.array(12, 1), -2);
        desk.finish(12);
        check.due("size, finished", desk.size(12), 524288);
        check.due("array of it, finished", desk.array(12, 1), 13);
    }

    private static void numbered(Check check) {
        for (int kind = 0; kind < 2; kind++) {
            Desk desk = Stories.withMembers(kind, 0).tell();
            for (int k = 0; k < 100; k++) {
                int t = k % 10 + 1;
                boolean isBits = t == 5 || t == 6;
                check.due("member " + k, isBits ? desk.bits(11, t, 1 + k % 32, true) : desk.field(11, t), k);
            }
            for (int k = 0; k < 100; k++) {
                check.due("type of member " + k, desk.member(11, k, 1), k % 10 + 1);
            }
        }
    }

    private static void nextPlace(Check check) {
        int[] types = {1, 2, 3, 4, 5, 6, 7, 8, 9, 10};
        int[] alignments = {1, 1, 2, 2, 4, 4, 4, 4, 4, 4};
        for (int lead = 0; lead <= 9; lead++) {
            for (int i = 0; i < types.length; i++) {
                Desk desk = Stories.withMembers(0, 0).times(lead, d -> d.field(11, 1)).tell();
                int place = lead;
                while (place % alignments[i] != 0) {
                    place++;
                }
                check.due("type " + types[i] + " behind " + lead, desk.field(11, types[i]), lead);
                check.due("its place", desk.member(11, lead, 0), place);
            }
        }
        Desk desk = Stories.busy().tell();
        desk.field(Stories.EMPTY, 1);
        desk.field(Stories.EMPTY, Stories.ARRAY);
        check.due("an array of 2s behind a byte", desk.member(Stories.EMPTY, 1, 0), 2);
        desk.field(Stories.EMPTY, 1);
        desk.field(Stories.EMPTY, Stories.FINISHED);
        check.due("a record of 2s behind 13 bytes", desk.member(Stories.EMPTY, 3, 0), 14);
        desk.field(Stories.EMPTY, 1);
        desk.field(Stories.EMPTY, Stories.POINTER);
        check.due("a pointer behind 19 bytes", desk.member(Stories.EMPTY, 5, 0), 20);
    }

    private static void behindAll(Check check) {
        // The bytes left free before the 4 are not used for the byte behind them.
        Desk desk = Stories.withMembers(0, 0).tell();
        desk.field(11, 1);
        desk.field(11, 5);
        desk.field(11, 1);
        desk.field(11, 1);
        check.due("place of the third", desk.member(11, 2, 0), 8);
        check.due("place of the fourth", desk.member(11, 3, 0), 9);
        // Nor are the free bits of a unit, and nor is the rounding of a record inside.
        desk.bits(11, 5, 1, true);
        desk.field(11, 1);
        check.due("place behind a bit", desk.member(11, 5, 0), 16);
        Desk nested = Stories.withMembers(0, 1).then(d -> d.field(11, 1)).then(d -> d.finish(11)).tell();
        nested.record(0);
        nested.field(12, 11);
        nested.field(12, 1);
        check.due("place behind a record of 3 bytes and 1 free", nested.member(12, 1, 0), 4);
    }

    private static void reaches(Check check) {
        int[] sizes = {1, 2, 3, 4, 5, 7, 8, 100};
        for (int size : sizes) {
            Desk desk = new Story().recordReachingTo(0, size).tell();
            desk.field(12, 1);
            check.due("a byte behind " + size, desk.member(12, 1, 0), size);
            check.due("finish", desk.finish(12), size + 1);
        }
    }

    private static void unionPlaces(Check check) {
        Desk desk = Stories.busy().tell();
        int[] types = {1, 3, 5, 10, 1, Stories.ARRAY, Stories.FINISHED, Stories.POINTER};
        for (int k = 0; k < types.length; k++) {
            check.due("field", desk.field(Stories.UNION, types[k]), k + 2);
        }
        for (int k = 0; k < types.length + 2; k++) {
            check.due("place of " + k, desk.member(Stories.UNION, k, 0), 0);
        }
        check.due("finish", desk.finish(Stories.UNION), 12);
    }

    private static void unionReach(Check check) {
        int[][] orders = {{3, 5, 9}, {3, 9, 5}, {5, 3, 9}, {5, 9, 3}, {9, 3, 5}, {9, 5, 3}, {9, 9, 9}};
        for (int[] order : orders) {
            Desk desk = new Desk();
            int u = desk.record(1);
            for (int size : order) {
                desk.field(u, desk.array(1, size));
            }
            check.due("the longest of three", desk.finish(u), 9);
        }
        Desk bits = new Desk();
        bits.record(1);
        bits.field(11, 3);
        bits.bits(11, 5, 1, true);
        check.due("a unit is the longest", bits.finish(11), 4);
    }

    private static void rounded(Check check) {
        int[] leads = {1, 3, 5, 7};
        int[] alignments = {1, 2, 4, 4};
        int[] sizes = {1, 2, 4, 8};
        for (int i = 0; i < leads.length; i++) {
            int lead = leads[i];
            for (int bytes = 0; bytes <= 8; bytes++) {
                int reach = sizes[i] + bytes;
                int want = reach;
                while (want % alignments[i] != 0) {
                    want++;
                }
                Desk struct = Stories.withMembers(0, 0).then(d -> d.field(11, lead))
                        .times(bytes, d -> d.field(11, 1)).tell();
                check.due("type " + lead + " and " + bytes + " bytes", struct.finish(11), want);
                check.due("its size", struct.size(11), want);
                Desk union = new Story().recordReachingTo(1, reach).then(d -> d.field(12, lead)).tell();
                check.due("a union of type " + lead + " to " + reach, union.finish(12), want);
            }
        }
    }
}
