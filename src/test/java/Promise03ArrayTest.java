public final class Promise03ArrayTest {
    private static final int[] WRONG_LENGTHS = {0, -1, 524289, 524290, Integer.MIN_VALUE, Integer.MAX_VALUE};

    public static void main(String[] args) {
        Sentences sentences = new Sentences();
        sentences.test("3: The array of n of a type: its number.", Promise03ArrayTest::number);
        sentences.test("3: -1 there is no such type", Promise03ArrayTest::noType);
        sentences.test("3: -1 n is not 1 .. 524288", Promise03ArrayTest::lengths);
        sentences.test("3: -2 the type has no size: type 0", Promise03ArrayTest::typeZero);
        sentences.test("3: -2 the type has no size: an open record", Promise03ArrayTest::openRecord);
        sentences.test("3: -3 it would be greater than 524288", Promise03ArrayTest::tooGreat);
        sentences.test("3: -3 where an int would wrap round", Promise03ArrayTest::wrapAround);
        sentences.test("3: -4 there are 300 ..", Promise03ArrayTest::full);
        sentences.test("3: .. and it is none of them", Promise03ArrayTest::fullWithIt);
        sentences.test("3: -1 before -2 before -3 before -4", Promise03ArrayTest::order);
        sentences.end();
    }

    private static void number(Check check) {
        Desk desk = new Desk();
        int[] sizes = {1, 1, 2, 2, 4, 4, 8, 8, 4, 8};
        int[] alignments = {1, 1, 2, 2, 4, 4, 4, 4, 4, 4};
        for (int t = 1; t < 11; t++) {
            int a = 10 + t;
            check.due("array(" + t + ", 5)", desk.array(t, 5), a);
            check.due("its size", desk.size(a), 5 * sizes[t - 1]);
            check.due("its align", desk.align(a), alignments[t - 1]);
            check.due("its members", desk.members(a), -1);
        }
        check.due("array(13, 7), of rows", desk.array(13, 7), 21);
        check.due("its size", desk.size(21), 70);
        check.due("its align", desk.align(21), 2);
        check.due("array of pointers", desk.array(desk.pointer(0), 3), 23);
        check.due("its size", desk.size(23), 12);
        check.due("its align", desk.align(23), 4);
        check.due("types()", desk.types(), 24);
    }

    private static void noType(Check check) {
        Desk desk = new Desk();
        check.due("array(1, 2)", desk.array(1, 2), 11);
        check.due("array(11, 2), of the last type", desk.array(11, 2), 12);
        check.due("array(13, 2), of the next number", desk.array(13, 2), -1);
        Unchanged.due(check, new Story(), "array(11, 1) of a new desk", d -> d.array(11, 1), -1);
        Unchanged.due(check, Stories.busy(), "array(17, 1) of 17", d -> d.array(17, 1), -1);
        for (int t : Stories.NO_TYPES) {
            Unchanged.due(check, Stories.busy(), "array(" + t + ", 1)", d -> d.array(t, 1), -1);
        }
    }

    private static void lengths(Check check) {
        Desk desk = new Desk();
        check.due("array(1, 1)", desk.array(1, 1), 11);
        check.due("its size", desk.size(11), 1);
        check.due("array(1, 524288)", desk.array(1, 524288), 12);
        check.due("its size", desk.size(12), 524288);
        for (int n : WRONG_LENGTHS) {
            Unchanged.due(check, Stories.busy(), "array(1, " + n + ")", d -> d.array(1, n), -1);
            Unchanged.due(check, Stories.busy(), "array(10, " + n + ")", d -> d.array(10, n), -1);
        }
    }

    private static void typeZero(Check check) {
        Unchanged.due(check, Stories.busy(), "array(0, 1)", d -> d.array(0, 1), -2);
        Unchanged.due(check, Stories.busy(), "array(0, 524288)", d -> d.array(0, 524288), -2);
        check.due("array(1, 1)", new Desk().array(1, 1), 11);
    }

    private static void openRecord(Check check) {
        Story busy = Stories.busy();
        Unchanged.due(check, busy, "array of an empty record", d -> d.array(Stories.EMPTY, 1), -2);
        Unchanged.due(check, busy, "array of an open struct", d -> d.array(Stories.STRUCT, 1), -2);
        Unchanged.due(check, busy, "array of an open union", d -> d.array(Stories.UNION, 3), -2);
        Desk desk = busy.tell();
        check.due("array of a finished one", desk.array(Stories.FINISHED, 3), 17);
        check.due("its size", desk.size(17), 12);
        check.due("its align", desk.align(17), 2);
        check.due("finish", desk.finish(Stories.UNION), 12);
        check.due("array of the union now", desk.array(Stories.UNION, 3), 18);
        check.due("its size", desk.size(18), 36);
        // The pointer has a size, whatever it points to.
        check.due("array of pointers to an open one", desk.array(desk.pointer(Stories.EMPTY), 2), 20);
    }

    private static void tooGreat(Check check) {
        int[] sizes = {1, 2, 3, 4, 5, 7, 8, 12, 255, 1000, 262143, 262144, 262145, 524287, 524288};
        for (int size : sizes) {
            int longest = Stories.GREATEST / size;
            Story element = new Story().then(d -> d.array(1, size));
            Desk desk = element.tell();
            check.due("array of " + longest + " of " + size, desk.array(11, longest), 12);
            check.due("its size", desk.size(12), longest * size);
            if (longest < Stories.GREATEST) {
                Unchanged.due(check, element, "array of " + (longest + 1) + " of " + size,
                        d -> d.array(11, longest + 1), -3);
            }
        }
        check.due("array(3, 262144)", new Desk().array(3, 262144), 11);
        check.due("array(3, 262145)", new Desk().array(3, 262145), -3);
        check.due("array(10, 65536)", new Desk().array(10, 65536), 11);
        check.due("array(10, 65537)", new Desk().array(10, 65537), -3);
    }

    /** 8192 of the greatest are 2 to the 32nd bytes, 4096 of them 2 to the 31st. */
    private static void wrapAround(Check check) {
        Story greatest = new Story().then(d -> d.array(1, Stories.GREATEST));
        int[] lengths = {4095, 4096, 4097, 8191, 8192, 8193, 12288, 16384, 262144, 524287, 524288};
        for (int n : lengths) {
            Unchanged.due(check, greatest, "array(11, " + n + ")", d -> d.array(11, n), -3);
        }
        check.due("array(8, 524288)", new Desk().array(8, 524288), -3);
    }

    private static void full(Check check) {
        Desk desk = Stories.busy().fillTo(298).tell();
        check.due("the 299th type", desk.array(3, 6), 298);
        check.due("the 300th type", desk.array(3, 7), 299);
        check.due("its size", desk.size(299), 14);
        check.due("the 301st type", desk.array(3, 8), -4);
        check.due("types()", desk.types(), 300);
        Story full = Stories.full();
        Unchanged.due(check, full, "array(1, 1) of a full desk", d -> d.array(1, 1), -4);
        Unchanged.due(check, full, "array(1, 524288) of a full desk", d -> d.array(1, 524288), -4);
        Unchanged.due(check, full, "array(299, 2) of a full desk", d -> d.array(299, 2), -4);
    }

    private static void fullWithIt(Check check) {
        Story full = Stories.busy().fillTo(299).then(d -> d.array(3, 6));
        Unchanged.due(check, full, "an early one", d -> d.array(3, 5), Stories.ARRAY);
        Unchanged.due(check, full, "the last one", d -> d.array(3, 6), 299);
        Unchanged.due(check, full, "one of another length", d -> d.array(3, 7), -4);
        Unchanged.due(check, full, "one of another type", d -> d.array(4, 5), -4);
    }

    private static void order(Check check) {
        Story full = Stories.full();
        for (Story story : new Story[] {Stories.busy(), full}) {
            Unchanged.due(check, story, "array(0, 0)", d -> d.array(0, 0), -1);
            Unchanged.due(check, story, "array(0, 524289)", d -> d.array(0, 524289), -1);
            Unchanged.due(check, story, "array(300, 0)", d -> d.array(300, 0), -1);
            Unchanged.due(check, story, "open, of 0", d -> d.array(Stories.STRUCT, 0), -1);
            Unchanged.due(check, story, "open, of 524288", d -> d.array(Stories.STRUCT, 524288), -2);
            Unchanged.due(check, story, "array(0, 1)", d -> d.array(0, 1), -2);
            Unchanged.due(check, story, "array(3, 524288)", d -> d.array(3, 524288), -3);
        }
    }
}
