public final class Promise05FieldTest {
    public static void main(String[] args) {
        Sentences sentences = new Sentences();
        sentences.test("5: Adds a plain member of type t to record r: its number.", Promise05FieldTest::number);
        sentences.test("5: .. of every type that has a size", Promise05FieldTest::everyType);
        sentences.test("5: -1 r is no open record: there is no such type", Promise05FieldTest::noRecordNumber);
        sentences.test("5: -1 r is no open record: another type", Promise05FieldTest::anotherType);
        sentences.test("5: -1 r is no open record: it is finished", Promise05FieldTest::finished);
        sentences.test("5: -1 there is no type t", Promise05FieldTest::noType);
        sentences.test("5: -2 t has no size: type 0", Promise05FieldTest::typeZero);
        sentences.test("5: -2 t has no size: an open record, r itself too", Promise05FieldTest::openRecord);
        sentences.test("5: -3 r has 100 members", Promise05FieldTest::hundred);
        sentences.test("5: -3 whatever the members are", Promise05FieldTest::hundredMixed);
        sentences.test("5: -4 the record would reach above 524288", Promise05FieldTest::reach);
        sentences.test("5: -4 by the bytes left free alone", Promise05FieldTest::reachByAlignment);
        sentences.test("5: -4 never in a union", Promise05FieldTest::unionReach);
        sentences.test("5: -1 before -2 before -3 before -4", Promise05FieldTest::order);
        sentences.end();
    }

    private static void number(Check check) {
        for (int kind = 0; kind < 2; kind++) {
            Desk desk = new Desk();
            int r = desk.record(kind);
            int[] types = {1, 3, 1, 5, 2, 10, 4, 7, 9, 1};
            int[] places = {0, 2, 4, 8, 12, 16, 24, 28, 36, 40};
            for (int k = 0; k < types.length; k++) {
                check.due("field(r, " + types[k] + ")", desk.field(r, types[k]), k);
                check.due("members", desk.members(r), k + 1);
                check.due("its place", desk.member(r, k, 0), kind == 0 ? places[k] : 0);
                check.due("its type", desk.member(r, k, 1), types[k]);
                check.due("its lowest bit", desk.member(r, k, 2), 0);
                check.due("its width", desk.member(r, k, 3), 0);
            }
            check.due("finish", desk.finish(r), kind == 0 ? 44 : 8);
        }
    }

    private static void everyType(Check check) {
        Desk desk = Stories.busy().tell();
        int[] types = {1, 2, 3, 4, 5, 6, 7, 8, 9, 10, Stories.FINISHED, Stories.POINTER, Stories.ARRAY};
        int[] places = {0, 1, 2, 4, 8, 12, 16, 24, 32, 36, 44, 48, 52};
        for (int k = 0; k < types.length; k++) {
            check.due("field(16, " + types[k] + ")", desk.field(Stories.EMPTY, types[k]), k);
            check.due("its place", desk.member(Stories.EMPTY, k, 0), places[k]);
            check.due("its type", desk.member(Stories.EMPTY, k, 1), types[k]);
        }
        check.due("finish", desk.finish(Stories.EMPTY), 64);
        check.due("finish of the struct", desk.finish(Stories.STRUCT), 8);
        check.due("field of it in the union", desk.field(Stories.UNION, Stories.STRUCT), 2);
    }

    private static void noRecordNumber(Check check) {
        Desk desk = new Desk();
        check.due("record(0)", desk.record(0), 11);
        check.due("field(12, 1), the next number", desk.field(12, 1), -1);
        check.due("field(11, 1), the last one", desk.field(11, 1), 0);
        Unchanged.due(check, Stories.busy(), "field(17, 1) of 17", d -> d.field(17, 1), -1);
        for (int r : Stories.NO_TYPES) {
            Unchanged.due(check, Stories.busy(), "field(" + r + ", 1)", d -> d.field(r, 1), -1);
        }
        Story full = Stories.busy().fillTo(299).then(d -> d.record(0));
        check.due("field(299, 1) of 300", full.tell().field(299, 1), 0);
        Unchanged.due(check, full, "field(300, 1) of 300", d -> d.field(300, 1), -1);
    }

    private static void anotherType(Check check) {
        int[] others = {0, 1, 5, 6, 10, Stories.POINTER, Stories.ARRAY};
        for (int r : others) {
            Unchanged.due(check, Stories.busy(), "field(" + r + ", 1)", d -> d.field(r, 1), -1);
        }
    }

    private static void finished(Check check) {
        Unchanged.due(check, Stories.busy(), "field of a finished one",
                d -> d.field(Stories.FINISHED, 1), -1);
        Unchanged.due(check, Stories.busy(), "field of a finished one, itself",
                d -> d.field(Stories.FINISHED, Stories.FINISHED), -1);
        Story union = Stories.busy().then(d -> d.finish(Stories.UNION));
        Unchanged.due(check, union, "field of a finished union", d -> d.field(Stories.UNION, 1), -1);
        // A finish that was refused leaves the record open.
        Desk desk = Stories.busy().tell();
        check.due("finish of an empty one", desk.finish(Stories.EMPTY), -2);
        check.due("field of it", desk.field(Stories.EMPTY, 1), 0);
    }

    private static void noType(Check check) {
        Desk desk = Stories.busy().tell();
        check.due("field(14, 13), a type", desk.field(Stories.STRUCT, 13), 2);
        check.due("pointer(1)", desk.pointer(1), 17);
        check.due("field(14, 17), the last type", desk.field(Stories.STRUCT, 17), 3);
        check.due("field(14, 18), the next number", desk.field(Stories.STRUCT, 18), -1);
        int[] records = {Stories.STRUCT, Stories.UNION, Stories.EMPTY};
        for (int r : records) {
            Unchanged.due(check, Stories.busy(), "field(" + r + ", 17) of 17", d -> d.field(r, 17), -1);
            for (int t : Stories.NO_TYPES) {
                Unchanged.due(check, Stories.busy(), "field(" + r + ", " + t + ")", d -> d.field(r, t), -1);
            }
        }
    }

    private static void typeZero(Check check) {
        int[] records = {Stories.STRUCT, Stories.UNION, Stories.EMPTY};
        for (int r : records) {
            Unchanged.due(check, Stories.busy(), "field(" + r + ", 0)", d -> d.field(r, 0), -2);
        }
        check.due("field(16, 1)", Stories.busy().tell().field(Stories.EMPTY, 1), 0);
    }

    private static void openRecord(Check check) {
        int[] records = {Stories.STRUCT, Stories.UNION, Stories.EMPTY};
        for (int r : records) {
            for (int t : records) {
                Unchanged.due(check, Stories.busy(), "field(" + r + ", " + t + ")", d -> d.field(r, t), -2);
            }
        }
        Desk desk = Stories.busy().tell();
        check.due("finish", desk.finish(Stories.UNION), 12);
        check.due("field of it finished", desk.field(Stories.EMPTY, Stories.UNION), 0);
        check.due("a pointer to itself", desk.field(Stories.EMPTY, desk.pointer(Stories.EMPTY)), 1);
        check.due("finish", desk.finish(Stories.EMPTY), 16);
    }

    private static void hundred(Check check) {
        for (int kind = 0; kind < 2; kind++) {
            Desk desk = Stories.withMembers(kind, 99).tell();
            check.due("the 100th", desk.field(11, 3), 99);
            check.due("its place", desk.member(11, 99, 0), kind == 0 ? 198 : 0);
            check.due("the 101st", desk.field(11, 3), -3);
            check.due("members", desk.members(11), 100);
            check.due("finish", desk.finish(11), kind == 0 ? 200 : 2);
            Story hundred = Stories.withMembers(kind, 100);
            Unchanged.due(check, hundred, "field(11, 1)", d -> d.field(11, 1), -3);
            Unchanged.due(check, hundred, "field(11, 10), of another alignment", d -> d.field(11, 10), -3);
            Desk other = hundred.tell();
            check.due("another record", other.field(other.record(kind), 1), 0);
        }
    }

    private static void hundredMixed(Check check) {
        for (int kind = 0; kind < 2; kind++) {
            // 49 unnamed ones are none of the hundred.
            Story hundred = Stories.withMembers(kind, 50)
                    .times(49, d -> d.bits(11, 5, 3, false))
                    .times(49, d -> d.bits(11, 5, 3, true));
            Desk desk = hundred.tell();
            check.due("the 100th", desk.field(11, 1), 99);
            check.due("the 101st", desk.field(11, 1), -3);
            Story ending = hundred.then(d -> d.bits(11, 6, 3, true));
            Unchanged.due(check, ending, "field behind a hundredth bit-field", d -> d.field(11, 1), -3);
        }
    }

    private static void reach(Check check) {
        int[] types = {1, 3, 5, 8};
        int[] sizes = {1, 2, 4, 8};
        for (int i = 0; i < types.length; i++) {
            int t = types[i];
            int place = Stories.GREATEST - sizes[i];
            Desk desk = new Story().recordReachingTo(0, place).tell();
            check.due("type " + t + " to the limit", desk.field(12, t), 1);
            check.due("its place", desk.member(12, 1, 0), place);
            check.due("finish", desk.finish(12), Stories.GREATEST);
            Unchanged.due(check, new Story().recordReachingTo(0, place + 1),
                    "type " + t + " a byte behind it", d -> d.field(12, t), -4);
            Unchanged.due(check, new Story().recordReachingTo(0, Stories.GREATEST),
                    "type " + t + " behind the limit", d -> d.field(12, t), -4);
        }
        Desk desk = new Desk();
        int greatest = desk.array(1, Stories.GREATEST);
        int r = desk.record(0);
        check.due("the greatest type", desk.field(r, greatest), 0);
        check.due("the greatest type again", desk.field(r, greatest), -4);
        check.due("finish", desk.finish(r), Stories.GREATEST);
        Story behindByte = new Story().then(d -> d.array(1, Stories.GREATEST))
                .then(d -> d.array(1, Stories.GREATEST - 1))
                .then(d -> d.record(0)).then(d -> d.field(13, 1));
        Unchanged.due(check, behindByte, "the greatest behind a byte", d -> d.field(13, 11), -4);
        check.due("a byte less", behindByte.tell().field(13, 12), 1);
        // Behind a refused member the bit-field before it is still the last one.
        Story behindBits = new Story().then(d -> d.array(1, Stories.GREATEST)).then(d -> d.record(0))
                .then(d -> d.bits(12, 5, 4, true));
        Unchanged.due(check, behindBits, "the greatest behind bits", d -> d.field(12, 11), -4);
    }

    /** There is room for the member, but not behind the place that its alignment divides. */
    private static void reachByAlignment(Check check) {
        int[][] cases = {{3, 524287}, {5, 524285}, {5, 524286}, {5, 524287}, {8, 524281}, {10, 524283}};
        for (int[] one : cases) {
            int t = one[0];
            Unchanged.due(check, new Story().recordReachingTo(0, one[1]),
                    "type " + t + " behind " + one[1], d -> d.field(12, t), -4);
        }
        Desk desk = new Story().recordReachingTo(0, 524285).tell();
        check.due("4 bytes at 524288", desk.field(12, 5), -4);
        check.due("2 bytes at 524286", desk.field(12, 3), 1);
        check.due("its place", desk.member(12, 1, 0), 524286);
        check.due("1 byte at 524288", desk.field(12, 1), -4);
        Desk bytes = new Story().recordReachingTo(0, 524285).tell();
        for (int k = 1; k <= 3; k++) {
            check.due("a byte", bytes.field(12, 1), k);
        }
        check.due("a byte at 524288", bytes.field(12, 1), -4);
    }

    private static void unionReach(Check check) {
        Desk desk = new Story().recordReachingTo(1, Stories.GREATEST).tell();
        check.due("the greatest again", desk.field(12, 11), 1);
        check.due("a byte", desk.field(12, 1), 2);
        check.due("8 bytes", desk.field(12, 10), 3);
        check.due("finish", desk.finish(12), Stories.GREATEST);
    }

    private static void order(Check check) {
        Unchanged.due(check, Stories.busy(), "0 into no record", d -> d.field(5, 0), -1);
        Unchanged.due(check, Stories.busy(), "0 into a finished one", d -> d.field(Stories.FINISHED, 0), -1);
        for (int kind = 0; kind < 2; kind++) {
            Story hundred = Stories.withMembers(kind, 100).then(d -> d.array(1, Stories.GREATEST));
            Unchanged.due(check, hundred, "no type as the 101st", d -> d.field(11, 13), -1);
            Unchanged.due(check, hundred, "0 as the 101st", d -> d.field(11, 0), -2);
            Unchanged.due(check, hundred, "itself as the 101st", d -> d.field(11, 11), -2);
            Unchanged.due(check, hundred, "the greatest as the 101st", d -> d.field(11, 12), -3);
        }
        Story limit = new Story().recordReachingTo(0, Stories.GREATEST);
        Unchanged.due(check, limit, "0 behind the limit", d -> d.field(12, 0), -2);
        Unchanged.due(check, limit, "no type behind the limit", d -> d.field(12, 13), -1);
    }
}
