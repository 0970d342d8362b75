public final class Promise06BitsTest {
    private static final int[] WRONG_WIDTHS = {0, -1, -32, 33, 34, 64, Integer.MIN_VALUE, Integer.MAX_VALUE};
    private static final int[] WRONG_TYPES = {0, 1, 2, 3, 4, 7, 8, 9, 10, Stories.FINISHED, Stories.POINTER,
        Stories.ARRAY, Stories.STRUCT, 17, 300, -1, Integer.MIN_VALUE, Integer.MAX_VALUE};
    private static final boolean[] NAMED = {true, false};

    public static void main(String[] args) {
        Sentences sentences = new Sentences();
        sentences.test("6: Adds a bit-field of type t: its number ..", Promise06BitsTest::number);
        sentences.test("6: .. or 100 if it is not named", Promise06BitsTest::notNamed);
        sentences.test("6: -1 r is no open record: there is no such type", Promise06BitsTest::noRecordNumber);
        sentences.test("6: -1 r is no open record: another type", Promise06BitsTest::anotherType);
        sentences.test("6: -1 r is no open record: it is finished", Promise06BitsTest::finished);
        sentences.test("6: -2 t is not 5 or 6", Promise06BitsTest::types);
        sentences.test("6: -2 width not 1 .. 32", Promise06BitsTest::widths);
        sentences.test("6: -3 it is named, and r has 100 members", Promise06BitsTest::hundred);
        sentences.test("6: .. one without a name is taken then", Promise06BitsTest::hundredUnnamed);
        sentences.test("6: -4 the record would reach above 524288", Promise06BitsTest::reach);
        sentences.test("6: .. not in a unit that there is", Promise06BitsTest::reachInUnit);
        sentences.test("6: -4 never in a union", Promise06BitsTest::unionReach);
        sentences.test("6: -1 before -2 before -3 before -4", Promise06BitsTest::order);
        sentences.end();
    }

    private static void place(Check check, Desk desk, int r, int k, int... want) {
        for (int what = 0; what < 4; what++) {
            check.due("member(" + r + ", " + k + ", " + what + ")", desk.member(r, k, what), want[what]);
        }
    }

    private static void number(Check check) {
        Desk desk = new Desk();
        int r = desk.record(0);
        check.due("3 bits", desk.bits(r, 5, 3, true), 0);
        check.due("28 bits", desk.bits(r, 6, 28, true), 1);
        check.due("2 bits do not fit", desk.bits(r, 6, 2, true), 2);
        check.due("1 bit goes behind them", desk.bits(r, 5, 1, true), 3);
        check.due("32 bits", desk.bits(r, 5, 32, true), 4);
        check.due("a byte", desk.field(r, 1), 5);
        check.due("31 bits", desk.bits(r, 6, 31, true), 6);
        place(check, desk, r, 0, 0, 5, 0, 3);
        place(check, desk, r, 1, 0, 6, 3, 28);
        place(check, desk, r, 2, 4, 6, 0, 2);
        place(check, desk, r, 3, 4, 5, 2, 1);
        place(check, desk, r, 4, 8, 5, 0, 32);
        place(check, desk, r, 5, 12, 1, 0, 0);
        place(check, desk, r, 6, 16, 6, 0, 31);
        check.due("finish", desk.finish(r), 20);
    }

    private static void notNamed(Check check) {
        for (int kind = 0; kind < 2; kind++) {
            Desk desk = new Desk();
            int r = desk.record(kind);
            for (int i = 0; i < 5; i++) {
                check.due("unnamed", desk.bits(r, 5 + i % 2, 1 + i, false), 100);
                check.due("members", desk.members(r), 0);
            }
            check.due("named", desk.bits(r, 5, 8, true), 0);
            check.due("unnamed", desk.bits(r, 5, 8, false), 100);
            check.due("named", desk.bits(r, 6, 1, true), 1);
            place(check, desk, r, 0, 0, 5, kind == 0 ? 15 : 0, 8);
            place(check, desk, r, 1, 0, 6, kind == 0 ? 31 : 0, 1);
            check.due("finish", desk.finish(r), 4);
        }
    }

    private static void noRecordNumber(Check check) {
        Desk desk = new Desk();
        check.due("record(0)", desk.record(0), 11);
        check.due("bits(12, ..), the next number", desk.bits(12, 5, 1, true), -1);
        check.due("bits(11, ..), the last one", desk.bits(11, 5, 1, true), 0);
        for (boolean named : NAMED) {
            Unchanged.due(check, Stories.busy(), "bits(17, ..) of 17", d -> d.bits(17, 5, 1, named), -1);
            for (int r : Stories.NO_TYPES) {
                Unchanged.due(check, Stories.busy(), "bits(" + r + ", ..)", d -> d.bits(r, 5, 1, named), -1);
            }
        }
    }

    private static void anotherType(Check check) {
        int[] others = {0, 1, 5, 6, 10, Stories.POINTER, Stories.ARRAY};
        for (boolean named : NAMED) {
            for (int r : others) {
                Unchanged.due(check, Stories.busy(), "bits(" + r + ", ..)", d -> d.bits(r, 6, 32, named), -1);
            }
        }
    }

    private static void finished(Check check) {
        Story union = Stories.busy().then(d -> d.finish(Stories.UNION));
        // Its unit has free bits, but it is finished.
        Story struct = Stories.busy().then(d -> d.finish(Stories.STRUCT));
        for (boolean named : NAMED) {
            Unchanged.due(check, Stories.busy(), "bits of a finished struct",
                    d -> d.bits(Stories.FINISHED, 5, 1, named), -1);
            Unchanged.due(check, union, "bits of a finished union", d -> d.bits(Stories.UNION, 5, 1, named), -1);
            Unchanged.due(check, struct, "bits of a finished unit", d -> d.bits(Stories.STRUCT, 5, 1, named), -1);
        }
        Desk desk = Stories.busy().tell();
        check.due("finish of an empty one", desk.finish(Stories.EMPTY), -2);
        check.due("bits of it", desk.bits(Stories.EMPTY, 5, 1, true), 0);
    }

    private static void types(Check check) {
        int[] records = {Stories.STRUCT, Stories.UNION, Stories.EMPTY};
        for (int r : records) {
            int next = r == Stories.EMPTY ? 0 : 2;
            for (int t = 5; t <= 6; t++) {
                Desk desk = Stories.busy().tell();
                check.due("bits(r, " + t + ", 1)", desk.bits(r, t, 1, true), next);
                check.due("its type", desk.member(r, next, 1), t);
                check.due("bits(r, " + t + ", 1), unnamed", desk.bits(r, t, 1, false), 100);
            }
            for (int t : WRONG_TYPES) {
                for (boolean named : NAMED) {
                    Unchanged.due(check, Stories.busy(), "bits(" + r + ", " + t + ", 4, " + named + ")",
                            d -> d.bits(r, t, 4, named), -2);
                }
            }
        }
    }

    private static void widths(Check check) {
        int[] records = {Stories.STRUCT, Stories.UNION, Stories.EMPTY};
        for (int r : records) {
            int next = r == Stories.EMPTY ? 0 : 2;
            for (int width = 1; width <= 32; width++) {
                Desk desk = Stories.busy().tell();
                check.due("bits(r, 5, " + width + ")", desk.bits(r, 5, width, true), next);
                check.due("its width", desk.member(r, next, 3), width);
                check.due("bits(r, 6, " + width + "), unnamed", desk.bits(r, 6, width, false), 100);
            }
            for (int width : WRONG_WIDTHS) {
                for (boolean named : NAMED) {
                    Unchanged.due(check, Stories.busy(), "bits(" + r + ", 5, " + width + ", " + named + ")",
                            d -> d.bits(r, 5, width, named), -2);
                    Unchanged.due(check, Stories.busy(), "bits(" + r + ", 6, " + width + ", " + named + ")",
                            d -> d.bits(r, 6, width, named), -2);
                }
            }
        }
    }

    private static void hundred(Check check) {
        for (int kind = 0; kind < 2; kind++) {
            Desk desk = Stories.withMembers(kind, 99).tell();
            check.due("the 100th", desk.bits(11, 6, 8, true), 99);
            place(check, desk, 11, 99, kind == 0 ? 200 : 0, 6, 0, 8);
            check.due("the 101st", desk.bits(11, 6, 8, true), -3);
            check.due("members", desk.members(11), 100);
            check.due("finish", desk.finish(11), kind == 0 ? 204 : 4);
            Unchanged.due(check, Stories.withMembers(kind, 100), "bits behind 100 plain ones",
                    d -> d.bits(11, 5, 1, true), -3);
            Story bits = Stories.withMembers(kind, 0).times(100, d -> d.bits(11, 5, 7, true));
            check.due("members of 100 bit-fields", bits.tell().members(11), 100);
            Unchanged.due(check, bits, "bits that would fit behind 100", d -> d.bits(11, 5, 4, true), -3);
            Unchanged.due(check, bits, "bits in a new unit behind 100", d -> d.bits(11, 6, 32, true), -3);
        }
    }

    private static void hundredUnnamed(Check check) {
        for (int kind = 0; kind < 2; kind++) {
            Desk desk = Stories.withMembers(kind, 100).tell();
            check.due("align", desk.align(11), 2);
            check.due("unnamed behind 100", desk.bits(11, 6, 23, false), 100);
            check.due("unnamed again, in a new unit", desk.bits(11, 6, 10, false), 100);
            check.due("members", desk.members(11), 100);
            check.due("align", desk.align(11), 4);
            check.due("named", desk.bits(11, 6, 1, true), -3);
            check.due("finish", desk.finish(11), kind == 0 ? 208 : 4);
        }
    }

    private static void reach(Check check) {
        for (boolean named : NAMED) {
            for (int place = 524281; place <= 524284; place++) {
                Desk desk = new Story().recordReachingTo(0, place).tell();
                check.due("a unit behind " + place, desk.bits(12, 5, 32, named), named ? 1 : 100);
                check.due("its place", desk.member(12, 1, 0), named ? 524284 : -1);
                check.due("finish", desk.finish(12), 524288);
            }
            for (int place = 524285; place <= 524288; place++) {
                Story story = new Story().recordReachingTo(0, place);
                Unchanged.due(check, story, "1 bit behind " + place, d -> d.bits(12, 5, 1, named), -4);
                Unchanged.due(check, story, "32 bits behind " + place, d -> d.bits(12, 6, 32, named), -4);
            }
        }
        Desk desk = new Story().recordReachingTo(0, 524285).tell();
        check.due("1 bit", desk.bits(12, 5, 1, true), -4);
        check.due("align as before", desk.align(12), 1);
        check.due("finish as before", desk.finish(12), 524285);
    }

    private static void reachInUnit(Check check) {
        Story unit = new Story().recordReachingTo(0, 524281).then(d -> d.bits(12, 5, 30, true));
        for (boolean named : NAMED) {
            Desk desk = unit.tell();
            check.due("2 bits that are left", desk.bits(12, 6, 2, named), named ? 2 : 100);
            check.due("1 bit more", desk.bits(12, 6, 1, named), -4);
            check.due("finish", desk.finish(12), 524288);
            Unchanged.due(check, unit, "3 bits", d -> d.bits(12, 6, 3, named), -4);
            Unchanged.due(check, unit.thenSeparate(12), "2 bits behind a break", d -> d.bits(12, 6, 2, named), -4);
            Unchanged.due(check, unit.then(d -> d.bits(12, 6, 2, true)), "1 bit behind a full unit",
                    d -> d.bits(12, 6, 1, named), -4);
        }
        Desk desk = unit.tell();
        check.due("3 bits", desk.bits(12, 6, 3, true), -4);
        check.due("2 bits behind refused ones", desk.bits(12, 6, 2, true), 2);
        place(check, desk, 12, 2, 524284, 6, 30, 2);
    }

    private static void unionReach(Check check) {
        Desk desk = new Story().recordReachingTo(1, 524288).tell();
        check.due("32 bits in the greatest union", desk.bits(12, 5, 32, true), 1);
        check.due("32 bits again", desk.bits(12, 6, 32, true), 2);
        check.due("unnamed", desk.bits(12, 6, 32, false), 100);
        place(check, desk, 12, 2, 0, 6, 0, 32);
        check.due("finish", desk.finish(12), 524288);
    }

    private static void order(Check check) {
        Story busy = Stories.busy();
        Story hundred = Stories.withMembers(0, 100);
        Story limit = new Story().recordReachingTo(0, 524288);
        Story both = limit.then(d -> d.record(0)).times(99, d -> d.field(13, 1))
                .then(d -> d.array(1, 524189)).then(d -> d.field(13, 14));
        for (boolean named : NAMED) {
            Unchanged.due(check, busy, "all wrong", d -> d.bits(17, 4, 0, named), -1);
            Unchanged.due(check, busy, "a finished one, type 4", d -> d.bits(Stories.FINISHED, 4, 1, named), -1);
            Unchanged.due(check, busy, "a finished one, width 33", d -> d.bits(Stories.FINISHED, 5, 33, named), -1);
            Unchanged.due(check, hundred, "type 7 as the 101st", d -> d.bits(11, 7, 1, named), -2);
            Unchanged.due(check, hundred, "width 0 as the 101st", d -> d.bits(11, 5, 0, named), -2);
            Unchanged.due(check, limit, "type 4 behind the limit", d -> d.bits(12, 4, 1, named), -2);
            Unchanged.due(check, limit, "width 33 behind the limit", d -> d.bits(12, 6, 33, named), -2);
            Unchanged.due(check, both, "the 101st behind the limit", d -> d.bits(13, 6, 32, named), named ? -3 : -4);
        }
    }
}
