public final class TermsTypesTest {
    public static void main(String[] args) {
        Sentences sentences = new Sentences();
        sentences.test("Terms: TYPES are numbered; 0 .. 10 are there from the beginning", TermsTypesTest::numbered);
        sentences.test("Terms: 0 a type without values (size 0)", TermsTypesTest::typeZero);
        sentences.test("Terms: whole numbers of 1, 1, 2, 2, 4, 4, 8, 8 bytes, 9 of 4 and 10 of 8 bytes",
                TermsTypesTest::numbers);
        sentences.test("Terms: (.. the odd ones with sign): both of a length lie alike, and are two types",
                TermsTypesTest::signs);
        sentences.test("Terms: Others get the next number when they are made", TermsTypesTest::nextNumber);
        sentences.test("Terms: the POINTER to a type (4 bytes)", TermsTypesTest::pointers);
        sentences.test("Terms: the ARRAY of n of a type", TermsTypesTest::arrays);
        sentences.test("Terms: RECORDS", TermsTypesTest::records);
        sentences.test("Terms: A pointer to the same type is made once", TermsTypesTest::pointerOnce);
        sentences.test("Terms: an array of the same type with the same length is made once",
                TermsTypesTest::arrayOnce);
        sentences.test("Terms: .. a record is made anew each time", TermsTypesTest::recordAnew);
        sentences.test("Terms: .. and no two of another kind are the same", TermsTypesTest::kindsApart);
        sentences.test("Terms: At most 300 types.", TermsTypesTest::atMost);
        sentences.end();
    }

    private static void numbered(Check check) {
        Desk desk = new Desk();
        check.due("size(-1)", desk.size(-1), -1);
        check.due("size(0)", desk.size(0), 0);
        check.due("size(10)", desk.size(10), 8);
        check.due("size(11)", desk.size(11), -1);
    }

    private static void typeZero(Check check) {
        Desk desk = new Desk();
        check.due("size(0)", desk.size(0), 0);
        check.due("array(0, 1)", desk.array(0, 1), -2);
        desk.record(0);
        check.due("field(11, 0)", desk.field(11, 0), -2);
        check.due("pointer(0)", desk.pointer(0), 12);
    }

    private static void numbers(Check check) {
        int[] sizes = {1, 1, 2, 2, 4, 4, 8, 8, 4, 8};
        for (int t = 1; t <= 10; t++) {
            check.due("size(" + t + ")", new Desk().size(t), sizes[t - 1]);
        }
    }

    /** No call answers whether a type has a sign. */
    private static void signs(Check check) {
        for (int odd = 1; odd < 9; odd += 2) {
            int even = odd + 1;
            Desk desk = new Desk();
            check.due("size(" + even + ")", desk.size(even), desk.size(odd));
            check.due("align(" + even + ")", desk.align(even), desk.align(odd));
            check.due("pointer(" + odd + ")", desk.pointer(odd), 11);
            check.due("pointer(" + even + ")", desk.pointer(even), 12);
            check.due("array(" + odd + ", 2)", desk.array(odd, 2), 13);
            check.due("array(" + even + ", 2)", desk.array(even, 2), 14);
            int r = desk.record(0);
            desk.field(r, odd);
            desk.field(r, even);
            check.due("type of the first member", desk.member(r, 0, 1), odd);
            check.due("type of the second", desk.member(r, 1, 1), even);
        }
    }

    private static void nextNumber(Check check) {
        Desk desk = new Desk();
        check.due("record(1)", desk.record(1), 11);
        check.due("pointer(5)", desk.pointer(5), 12);
        check.due("pointer(5) again", desk.pointer(5), 12);
        check.due("array(5, 5)", desk.array(5, 5), 13);
        check.due("array(5, 0)", desk.array(5, 0), -1);
        check.due("pointer(14)", desk.pointer(14), -1);
        check.due("record(2)", desk.record(2), -1);
        check.due("pointer(13)", desk.pointer(13), 14);
        check.due("record(0)", desk.record(0), 15);
        check.due("array(14, 1)", desk.array(14, 1), 16);
        check.due("types()", desk.types(), 17);
    }

    private static void pointers(Check check) {
        for (int t = 0; t < Stories.BUSY_TYPES; t++) {
            Desk desk = Stories.busy().tell();
            check.due("size of the pointer to " + t, desk.size(desk.pointer(t)), 4);
        }
    }

    private static void arrays(Check check) {
        int[] sized = {1, 2, 3, 4, 5, 6, 7, 8, 9, 10, Stories.FINISHED, Stories.POINTER, Stories.ARRAY};
        int[] lengths = {1, 2, 7, 4096};
        for (int t : sized) {
            for (int n : lengths) {
                Desk desk = Stories.busy().tell();
                check.due("size of array(" + t + ", " + n + ")", desk.size(desk.array(t, n)), n * desk.size(t));
            }
        }
    }

    private static void records(Check check) {
        for (int kind = 0; kind < 2; kind++) {
            Desk desk = Stories.busy().tell();
            check.due("record(" + kind + ")", desk.record(kind), Stories.BUSY_TYPES);
            check.due("types()", desk.types(), Stories.BUSY_TYPES + 1);
            check.due("its members", desk.members(Stories.BUSY_TYPES), 0);
        }
    }

    private static void pointerOnce(Check check) {
        Desk desk = Stories.busy().tell();
        for (int t = 0; t < Stories.BUSY_TYPES; t++) {
            desk.pointer(t);
        }
        int types = desk.types();
        check.due("types() with a pointer to each", types, 2 * Stories.BUSY_TYPES - 1);
        for (int t = 0; t < Stories.BUSY_TYPES; t++) {
            int want = t < Stories.FINISHED ? 17 + t : t == Stories.FINISHED ? Stories.POINTER : 16 + t;
            check.due("pointer(" + t + ") again", desk.pointer(t), want);
        }
        check.due("types() as before", desk.types(), types);
        // A record stays the same type when it takes members and when it is finished.
        Desk growing = Stories.busy().then(d -> d.pointer(Stories.EMPTY)).tell();
        growing.field(Stories.EMPTY, 1);
        check.due("pointer to it with a member", growing.pointer(Stories.EMPTY), 17);
        growing.finish(Stories.EMPTY);
        check.due("pointer to it finished", growing.pointer(Stories.EMPTY), 17);
    }

    private static void arrayOnce(Check check) {
        Desk desk = new Desk();
        int[] lengths = {1, 2, 3, 524287, 524288};
        for (int time = 0; time < 2; time++) {
            for (int i = 0; i < lengths.length; i++) {
                check.due("array(1, " + lengths[i] + ")", desk.array(1, lengths[i]), 11 + i);
            }
        }
        check.due("array(2, 1)", desk.array(2, 1), 16);
        check.due("array(11, 1), of the array of one", desk.array(11, 1), 17);
        check.due("array(17, 1)", desk.array(17, 1), 18);
        check.due("array(11, 1) again", desk.array(11, 1), 17);
        check.due("array(1, 1) again", desk.array(1, 1), 11);
        // Of the same size and alignment, but of another type or length.
        check.due("array(3, 4)", desk.array(3, 4), 19);
        check.due("array(4, 4)", desk.array(4, 4), 20);
        check.due("array(5, 2)", desk.array(5, 2), 21);
        check.due("array(6, 2)", desk.array(6, 2), 22);
        check.due("array(9, 2)", desk.array(9, 2), 23);
        check.due("array(7, 1)", desk.array(7, 1), 24);
        check.due("array(3, 4) again", desk.array(3, 4), 19);
        check.due("array(9, 2) again", desk.array(9, 2), 23);
        check.due("types()", desk.types(), 25);
    }

    private static void recordAnew(Check check) {
        Desk desk = new Desk();
        for (int i = 0; i < 4; i++) {
            int r = desk.record(0);
            check.due("record(0)", r, 11 + i);
            desk.field(r, 5);
            check.due("finish", desk.finish(r), 4);
        }
        check.due("pointer to one", desk.pointer(11), 15);
        check.due("pointer to its like", desk.pointer(12), 16);
        check.due("array of one", desk.array(13, 2), 17);
        check.due("array of its like", desk.array(14, 2), 18);
    }

    private static void kindsApart(Check check) {
        for (int t = 1; t <= 10; t++) {
            Desk desk = new Desk();
            check.due("pointer(" + t + ")", desk.pointer(t), 11);
            check.due("array(" + t + ", 1)", desk.array(t, 1), 12);
            check.due("pointer(" + t + ") again", desk.pointer(t), 11);
            check.due("array(" + t + ", 1) again", desk.array(t, 1), 12);
            Desk other = new Desk();
            check.due("array(" + t + ", 4)", other.array(t, 4), 11);
            check.due("pointer(" + t + ")", other.pointer(t), 12);
        }
    }

    private static void atMost(Check check) {
        Story almost = Stories.busy().fillTo(299);
        check.due("pointer as the 300th", almost.tell().pointer(1), 299);
        check.due("array as the 300th", almost.tell().array(1, 1), 299);
        check.due("record as the 300th", almost.tell().record(1), 299);
        Story full = almost.then(d -> d.record(1));
        Unchanged.due(check, full, "pointer as the 301st", d -> d.pointer(1), -2);
        Unchanged.due(check, full, "array as the 301st", d -> d.array(1, 1), -4);
        Unchanged.due(check, full, "record as the 301st", d -> d.record(1), -2);
        // A full desk works on with the types that it has.
        Desk desk = full.tell();
        check.due("field", desk.field(299, 299), -2);
        check.due("field", desk.field(299, 298), 0);
        check.due("bits", desk.bits(299, 5, 3, true), 1);
        check.due("finish", desk.finish(299), 1300);
        check.due("size", desk.size(299), 1300);
    }
}
