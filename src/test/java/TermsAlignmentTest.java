public final class TermsAlignmentTest {
    public static void main(String[] args) {
        Sentences sentences = new Sentences();
        sentences.test("Terms: The ALIGNMENT of the types 0 .. 10 and of pointers is their size",
                TermsAlignmentTest::size);
        sentences.test("Terms: .. 4 for those of 8 bytes", TermsAlignmentTest::eightBytes);
        sentences.test("Terms: that of an array its element's", TermsAlignmentTest::arrays);
        sentences.test("Terms: of a record the greatest of its members'", TermsAlignmentTest::records);
        sentences.test("Terms: .. (0 without members)", TermsAlignmentTest::withoutMembers);
        sentences.end();
    }

    private static void size(Check check) {
        int[] types = {0, 1, 2, 3, 4, 5, 6, 9};
        int[] alignments = {0, 1, 1, 2, 2, 4, 4, 4};
        for (int i = 0; i < types.length; i++) {
            check.due("align(" + types[i] + ")", new Desk().align(types[i]), alignments[i]);
        }
        for (int t = 0; t < Stories.BUSY_TYPES; t++) {
            Desk desk = Stories.busy().tell();
            check.due("align of the pointer to " + t, desk.align(desk.pointer(t)), 4);
        }
    }

    private static void eightBytes(Check check) {
        int[] types = {7, 8, 10};
        for (int t : types) {
            check.due("align(" + t + ")", new Desk().align(t), 4);
            Desk desk = new Desk();
            desk.record(0);
            desk.field(11, 5);
            desk.field(11, t);
            check.due("its place behind 4 bytes", desk.member(11, 1, 0), 4);
            check.due("finish", desk.finish(11), 12);
        }
    }

    private static void arrays(Check check) {
        for (int t = 1; t <= 10; t++) {
            Desk desk = new Desk();
            int element = desk.align(t);
            // Lengths that make arrays of 4, 8 and more bytes, whose alignment is the element's still.
            int[] lengths = {1, 2, 3, 4, 8, 65536};
            for (int n : lengths) {
                int a = desk.array(t, n);
                check.due("align of array(" + t + ", " + n + ")", desk.align(a), element);
                check.due("align of an array of it", desk.align(desk.array(a, 1)), element);
            }
        }
        Desk desk = Stories.busy().tell();
        check.due("of pointers", desk.align(desk.array(Stories.POINTER, 3)), 4);
        check.due("of records of 2", desk.align(desk.array(Stories.FINISHED, 3)), 2);
        check.due("of arrays of 2", desk.align(desk.array(Stories.ARRAY, 4)), 2);
    }

    private static void records(Check check) {
        int[] types = {1, 3, 5, 8};
        for (int kind = 0; kind < 2; kind++) {
            for (int a : types) {
                for (int b : types) {
                    Desk desk = Stories.withMembers(kind, 0).tell();
                    desk.field(11, a);
                    check.due("with type " + a, desk.align(11), desk.align(a));
                    desk.field(11, b);
                    int greatest = Math.max(desk.align(a), desk.align(b));
                    check.due("with types " + a + " and " + b, desk.align(11), greatest);
                    desk.finish(11);
                    check.due("finished", desk.align(11), greatest);
                }
            }
            // An array's and a record's alignment count, not their size.
            Desk desk = Stories.withMembers(kind, 0).tell();
            desk.field(11, desk.array(1, 64));
            check.due("with 64 bytes", desk.align(11), 1);
            desk.finish(11);
            int outer = desk.record(kind);
            desk.field(outer, 11);
            check.due("with a record of bytes", desk.align(outer), 1);
            desk.field(outer, desk.array(4, 64));
            check.due("with 64 of 2", desk.align(outer), 2);
            desk.field(outer, desk.pointer(1));
            check.due("with a pointer", desk.align(outer), 4);
        }
    }

    private static void withoutMembers(Check check) {
        for (int kind = 0; kind < 2; kind++) {
            Story empty = Stories.withMembers(kind, 0);
            check.due("a new one", empty.tell().align(11), 0);
            check.due("with a break", empty.thenSeparate(11).tell().align(11), 0);
            Desk desk = empty.then(d -> d.field(11, 0)).then(d -> d.field(11, 11))
                    .then(d -> d.bits(11, 7, 1, true)).then(d -> d.bits(11, 5, 0, false))
                    .then(d -> d.finish(11)).tell();
            check.due("behind refused members", desk.align(11), 0);
        }
    }
}
