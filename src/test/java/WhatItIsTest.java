import java.util.function.ToIntFunction;

public final class WhatItIsTest {
    private static final int[] ODD = {Integer.MIN_VALUE, -524288, -2, -1, 0, 1, 2, 3, 4, 5, 6, 7, 10, 11, 12, 13,
        14, 15, 16, 17, 31, 32, 33, 99, 100, 101, 298, 299, 300, 301, 524287, 524288, 524289, Integer.MAX_VALUE};

    public static void main(String[] args) {
        Sentences sentences = new Sentences();
        sentences.test("What it is: types with pointers, arrays, structs, unions and bit-fields ..",
                WhatItIsTest::oneOfEach);
        sentences.test("What it is: .. and how they lie in memory: sizes, alignments, and the place of each member",
                WhatItIsTest::nestedLayout);
        sentences.test("What it is: an object is used for 512 calls, and the 512th is answered as due",
                WhatItIsTest::lastCall);
        sentences.test("What it is: .. 509 bit-fields and none too many", WhatItIsTest::manyBitFields);
        sentences.test("What it is: .. each limit is come to in 512 calls", WhatItIsTest::allLimits);
        sentences.test("What it is: what later calls answer is free, but none throws", WhatItIsTest::laterCalls);
        sentences.test("What it is: no call throws, whatever it is given", WhatItIsTest::oddNumbers);
        sentences.end();
    }

    private static void oneOfEach(Check check) {
        Desk desk = new Desk();
        check.due("a struct", desk.record(0), 11);
        check.due("a pointer", desk.pointer(11), 12);
        check.due("an array", desk.array(4, 3), 13);
        check.due("a union", desk.record(1), 14);
        check.due("a bit-field", desk.bits(11, 6, 9, true), 0);
        check.due("types()", desk.types(), 15);
    }

    /** A union with a pointer and an array, an array of such unions, and a struct with all of them. */
    private static void nestedLayout(Check check) {
        Desk desk = new Desk();
        int struct = desk.record(0);
        int pointer = desk.pointer(struct);
        int row = desk.array(3, 3);
        int union = desk.record(1);
        desk.field(union, pointer);
        desk.field(union, row);
        check.due("the union's size", desk.finish(union), 8);
        int unions = desk.array(union, 2);
        int[][] members = {{0, row, 0, 0}, {8, 5, 0, 20}, {8, 6, 20, 12}, {12, 1, 0, 0}, {16, unions, 0, 0},
            {32, pointer, 0, 0}, {36, 2, 0, 0}};
        for (int k = 0; k < members.length; k++) {
            int t = members[k][1];
            int width = members[k][3];
            check.due("member " + k, width == 0 ? desk.field(struct, t) : desk.bits(struct, t, width, true), k);
        }
        check.due("the struct's size", desk.finish(struct), 40);
        int[] sizes = {40, 4, 6, 8, 16};
        int[] alignments = {4, 4, 2, 4, 4};
        for (int i = 0; i < sizes.length; i++) {
            check.due("size(" + (struct + i) + ")", desk.size(struct + i), sizes[i]);
            check.due("align(" + (struct + i) + ")", desk.align(struct + i), alignments[i]);
        }
        for (int k = 0; k < members.length; k++) {
            for (int what = 0; what < 4; what++) {
                check.due("member(" + k + ", " + what + ")", desk.member(struct, k, what), members[k][what]);
            }
        }
    }

    private static void last(Check check, String call, Story story, ToIntFunction<Desk> made, int want) {
        Desk desk = story.tell();
        while (desk.callsLeft() > 1) {
            desk.types();
        }
        check.due(call + " as call 512", made.applyAsInt(desk), want);
    }

    private static void lastCall(Check check) {
        Story busy = Stories.busy();
        last(check, "pointer(1)", busy, d -> d.pointer(1), 17);
        last(check, "pointer(1) of a full desk", Stories.full(), d -> d.pointer(1), -2);
        last(check, "array(1, 524288)", busy, d -> d.array(1, 524288), 17);
        last(check, "record(1)", busy, d -> d.record(1), 17);
        last(check, "field", busy, d -> d.field(Stories.STRUCT, 10), 2);
        last(check, "bits", busy, d -> d.bits(Stories.STRUCT, 5, 32, true), 2);
        last(check, "bits, unnamed", busy, d -> d.bits(Stories.STRUCT, 5, 32, false), 100);
        last(check, "separate", busy, d -> d.separate(Stories.STRUCT) ? 1 : 0, 1);
        last(check, "finish", busy, d -> d.finish(Stories.STRUCT), 8);
        last(check, "types", busy, d -> d.types(), 17);
        last(check, "size", busy, d -> d.size(Stories.ARRAY), 10);
        last(check, "align", busy, d -> d.align(Stories.ARRAY), 2);
        last(check, "members", busy, d -> d.members(Stories.STRUCT), 2);
        last(check, "member", busy, d -> d.member(Stories.STRUCT, 1, 3), 4);
    }

    private static void manyBitFields(Check check) {
        for (int kind = 0; kind < 2; kind++) {
            Desk desk = Stories.withMembers(kind, 0).times(509, d -> d.bits(11, 5, 32, false)).tell();
            check.due("a byte", desk.field(11, 1), 0);
            check.due("its place", desk.member(11, 0, 0), kind == 0 ? 2036 : 0);
            Desk whole = Stories.withMembers(kind, 1).times(509, d -> d.bits(11, 6, 32, false)).tell();
            check.due("finish", whole.finish(11), kind == 0 ? 2040 : 4);
        }
        Desk breaks = Stories.withMembers(0, 0).times(510, d -> d.separate(11) ? 1 : 0).tell();
        check.due("a byte behind 510 breaks", breaks.field(11, 1), 0);
    }

    private static void allLimits(Check check) {
        Desk desk = Stories.withMembers(0, 100).fillTo(300).tell();
        check.due("types()", desk.types(), 300);
        check.due("members", desk.members(11), 100);
        check.due("a member more", desk.field(11, 3), -3);
        check.due("a type more", desk.record(0), -2);
        check.due("unnamed bits", desk.bits(11, 6, 1, false), 100);
        check.due("finish", desk.finish(11), 204);
        check.due("place of the last", desk.member(11, 99, 0), 198);
    }

    /** Whatever the answers are, the calls come back. */
    private static void laterCalls(Check check) {
        LayoutDesk desk = new LayoutDesk();
        long seed = 4711;
        for (int i = 0; i < 200000; i++) {
            seed = seed * 6364136223846793005L + 1442695040888963407L;
            int a = pick(seed >>> 20);
            int b = pick(seed >>> 32);
            int c = pick(seed >>> 44);
            callOne(desk, (int) (seed >>> 58) % 12, a, b, c);
        }
        LayoutDesk bits = new LayoutDesk();
        bits.record(0);
        for (int i = 0; i < 200000; i++) {
            bits.bits(11, 5, 32, false);
        }
    }

    private static int pick(long number) {
        int low = (int) (number & 4095);
        return low < 2048 ? low % 310 : ODD[low % ODD.length];
    }

    private static void oddNumbers(Check check) {
        for (int a : ODD) {
            for (int b : ODD) {
                LayoutDesk desk = new LayoutDesk();
                desk.record(0);
                desk.record(1);
                desk.array(1, 524288);
                for (int c : ODD) {
                    for (int which = 0; which < 12; which++) {
                        callOne(desk, which, a, b, c);
                    }
                }
            }
        }
    }

    private static void callOne(LayoutDesk desk, int which, int a, int b, int c) {
        switch (which) {
            case 0 -> desk.pointer(a);
            case 1 -> desk.array(a, b);
            case 2 -> desk.record(a);
            case 3 -> desk.field(a, b);
            case 4 -> desk.bits(a, b, c, true);
            case 5 -> desk.bits(a, b, c, false);
            case 6 -> desk.separate(a);
            case 7 -> desk.finish(a);
            case 8 -> desk.size(a);
            case 9 -> desk.align(a);
            case 10 -> desk.members(a);
            default -> desk.member(a, b, c);
        }
    }
}
