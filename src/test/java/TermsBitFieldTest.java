public final class TermsBitFieldTest {
    private static final boolean[] NAMED = {true, false};

    public static void main(String[] args) {
        Sentences sentences = new Sentences();
        sentences.test("Terms: A BIT-FIELD (of type 5 or 6; its width 1 .. 32)", TermsBitFieldTest::typeAndWidth);
        sentences.test("Terms: stands in a unit of 4 bytes at a place that 4 divides", TermsBitFieldTest::unitPlace);
        sentences.test("Terms: in a struct it takes the lowest free bits of the unit .. if they suffice",
                TermsBitFieldTest::suffice);
        sentences.test("Terms: .. of the bit-field that was added right before it", TermsBitFieldTest::rightBefore);
        sentences.test("Terms: .. of either type", TermsBitFieldTest::eitherType);
        sentences.test("Terms: else those of a new unit, which stands like a plain member of 4 bytes",
                TermsBitFieldTest::newUnit);
        sentences.test("Terms: and behind a plain member", TermsBitFieldTest::behindPlain);
        sentences.test("Terms: .. or a BREAK", TermsBitFieldTest::behindBreak);
        sentences.test("Terms: .. but not behind a refused call, a question or another record's calls",
                TermsBitFieldTest::behindOthers);
        sentences.test("Terms: In a union each has a new unit at 0", TermsBitFieldTest::union);
        sentences.test("Terms: The record's alignment is at least 4 then", TermsBitFieldTest::alignment);
        sentences.test("Terms: One without a name counts ..", TermsBitFieldTest::unnamedCounts);
        sentences.test("Terms: .. but is no member", TermsBitFieldTest::unnamedIsNoMember);
        sentences.test("Terms: A record with none but those without a name has alignment 4",
                TermsBitFieldTest::unnamedAlone);
        sentences.test("Terms: A BREAK ends the unit ..", TermsBitFieldTest::breakEnds);
        sentences.test("Terms: .. and does nothing else", TermsBitFieldTest::breakDoesNothingElse);
        sentences.end();
    }

    private static Story struct() {
        return Stories.withMembers(0, 0);
    }

    private static void stands(Check check, Desk desk, int k, int place, int lowest) {
        check.due("place of " + k, desk.member(11, k, 0), place);
        check.due("lowest bit of " + k, desk.member(11, k, 2), lowest);
    }

    private static void typeAndWidth(Check check) {
        for (int kind = 0; kind < 2; kind++) {
            for (int t = 0; t <= 11; t++) {
                for (int width = -1; width <= 34; width++) {
                    boolean right = (t == 5 || t == 6) && width >= 1 && width <= 32;
                    Desk desk = Stories.withMembers(kind, 0).tell();
                    check.due("bits(11, " + t + ", " + width + ")", desk.bits(11, t, width, true), right ? 0 : -2);
                    check.due("its width", desk.member(11, 0, 3), right ? width : -1);
                    check.due("align", desk.align(11), right ? 4 : 0);
                    check.due("unnamed", desk.bits(11, t, width, false), right ? 100 : -2);
                }
            }
        }
    }

    private static void unitPlace(Check check) {
        for (int lead = 0; lead <= 9; lead++) {
            Desk desk = struct().times(lead, d -> d.field(11, 1)).tell();
            desk.bits(11, 5, 9, true);
            stands(check, desk, lead, (lead + 3) / 4 * 4, 0);
            desk.field(11, 1);
            check.due("a byte behind the unit", desk.member(11, lead + 1, 0), (lead + 3) / 4 * 4 + 4);
        }
    }

    private static void suffice(Check check) {
        for (int first = 1; first <= 32; first++) {
            int a = first;
            for (int second = 1; second <= 32; second++) {
                Desk desk = struct().then(d -> d.bits(11, 5, a, true)).tell();
                check.due("bits behind " + first, desk.bits(11, 5, second, true), 1);
                boolean fits = first + second <= 32;
                stands(check, desk, 0, 0, 0);
                stands(check, desk, 1, fits ? 0 : 4, fits ? first : 0);
                check.due("finish with " + first + " and " + second, desk.finish(11), fits ? 4 : 8);
            }
        }
        Desk desk = struct().times(65, d -> d.bits(11, 6, 1, true)).tell();
        stands(check, desk, 31, 0, 31);
        stands(check, desk, 32, 4, 0);
        stands(check, desk, 63, 4, 31);
        stands(check, desk, 64, 8, 0);
    }

    private static void rightBefore(Check check) {
        // 12 bits are left free in the first unit, but the second is the last one's.
        Desk desk = struct().times(2, d -> d.bits(11, 5, 20, true)).tell();
        desk.bits(11, 5, 12, true);
        desk.bits(11, 5, 12, true);
        desk.bits(11, 5, 1, true);
        stands(check, desk, 1, 4, 0);
        stands(check, desk, 2, 4, 20);
        stands(check, desk, 3, 8, 0);
        stands(check, desk, 4, 8, 12);
        Desk filled = struct().then(d -> d.bits(11, 5, 1, true)).then(d -> d.bits(11, 5, 32, true)).tell();
        filled.bits(11, 5, 1, true);
        stands(check, filled, 1, 4, 0);
        stands(check, filled, 2, 8, 0);
    }

    private static void eitherType(Check check) {
        for (int first = 5; first <= 6; first++) {
            for (int second = 5; second <= 6; second++) {
                Desk desk = struct().tell();
                desk.bits(11, first, 3, true);
                desk.bits(11, second, 29, true);
                stands(check, desk, 1, 0, 3);
                check.due("type of 0", desk.member(11, 0, 1), first);
                check.due("type of 1", desk.member(11, 1, 1), second);
            }
        }
    }

    private static void newUnit(Check check) {
        // A bit-field of 32 bits and a plain member of 4 bytes stand alike.
        for (int lead = 1; lead <= 8; lead++) {
            Story bytes = struct().times(lead, d -> d.field(11, 1));
            Desk bits = bytes.then(d -> d.bits(11, 5, 32, true)).then(d -> d.field(11, 1)).tell();
            Desk plain = bytes.then(d -> d.field(11, 5)).then(d -> d.field(11, 1)).tell();
            check.due("unit behind " + lead, bits.member(11, lead, 0), plain.member(11, lead, 0));
            check.due("byte behind it", bits.member(11, lead + 1, 0), plain.member(11, lead + 1, 0));
            check.due("finish", bits.finish(11), plain.finish(11));
        }
        Desk desk = struct().then(d -> d.bits(11, 5, 31, true)).tell();
        desk.bits(11, 5, 2, true);
        stands(check, desk, 1, 4, 0);
        check.due("finish", desk.finish(11), 8);
        Desk limit = new Story().recordReachingTo(0, 524284).tell();
        check.due("the last unit", limit.bits(12, 5, 31, true), 1);
        check.due("no unit more", limit.bits(12, 5, 2, true), -4);
    }

    private static void behindPlain(Check check) {
        int[] types = {1, 3, 5, 8};
        int[] places = {8, 8, 8, 12};
        for (int i = 0; i < types.length; i++) {
            Desk desk = struct().then(d -> d.bits(11, 5, 1, true)).tell();
            check.due("field", desk.field(11, types[i]), 1);
            check.due("bits", desk.bits(11, 5, 1, true), 2);
            check.due("bits", desk.bits(11, 5, 1, true), 3);
            stands(check, desk, 2, places[i], 0);
            stands(check, desk, 3, places[i], 1);
        }
    }

    private static void behindBreak(Check check) {
        for (int width = 1; width <= 31; width++) {
            int first = width;
            Desk desk = struct().then(d -> d.bits(11, 5, first, true)).thenSeparate(11).tell();
            desk.bits(11, 5, 32 - width, true);
            stands(check, desk, 1, 4, 0);
            desk.bits(11, 5, 1, true);
            stands(check, desk, 2, 4, 32 - width);
        }
        Desk full = struct().then(d -> d.bits(11, 5, 32, true)).thenSeparate(11).tell();
        full.bits(11, 5, 1, true);
        stands(check, full, 1, 4, 0);
    }

    private static void behindOthers(Check check) {
        Story bits = struct().then(d -> d.bits(11, 5, 4, true)).then(d -> d.record(0))
                .then(d -> d.array(1, 524288));
        Story[] stories = {
            bits.then(d -> d.field(11, 0)),
            bits.then(d -> d.field(11, 11)),
            bits.then(d -> d.field(11, 12)),
            bits.then(d -> d.field(11, 14)),
            bits.then(d -> d.field(11, 13)),
            bits.then(d -> d.bits(11, 4, 4, true)),
            bits.then(d -> d.bits(11, 5, 33, true)),
            bits.then(d -> d.bits(11, 5, 0, false)),
            bits.thenSeparate(10),
            bits.thenSeparate(12),
            bits.then(d -> d.field(12, 1)),
            bits.then(d -> d.bits(12, 5, 32, true)),
            bits.then(d -> d.bits(12, 5, 1, false)),
            bits.then(d -> d.field(12, 1)).then(d -> d.finish(12)),
            bits.then(d -> d.finish(12)),
            bits.then(d -> d.pointer(11)),
            bits.then(d -> d.array(11, 1)),
            bits.then(d -> d.record(0)),
            bits.then(d -> d.size(11)).then(d -> d.align(11)).then(d -> d.members(11))
                    .then(d -> d.member(11, 0, 0)).then(Desk::types),
        };
        for (int i = 0; i < stories.length; i++) {
            Desk desk = stories[i].tell();
            check.due("bits behind story " + i, desk.bits(11, 5, 28, true), 1);
            stands(check, desk, 1, 0, 4);
        }
    }

    private static void union(Check check) {
        int[] widths = {1, 5, 6, 31, 32};
        for (int first : widths) {
            for (int second : widths) {
                Desk desk = Stories.withMembers(1, 0).tell();
                check.due("bits", desk.bits(11, 5, first, true), 0);
                check.due("unnamed", desk.bits(11, 5, first, false), 100);
                check.due("bits", desk.bits(11, 6, second, true), 1);
                stands(check, desk, 0, 0, 0);
                stands(check, desk, 1, 0, 0);
                check.due("finish", desk.finish(11), 4);
            }
        }
        Desk desk = Stories.withMembers(1, 1).tell();
        desk.bits(11, 5, 3, true);
        desk.field(11, 8);
        desk.bits(11, 5, 3, true);
        stands(check, desk, 1, 0, 0);
        stands(check, desk, 2, 0, 0);
        stands(check, desk, 3, 0, 0);
        check.due("finish", desk.finish(11), 8);
    }

    private static void alignment(Check check) {
        int[] leads = {0, 1, 3, 5, 8};
        for (boolean named : NAMED) {
            for (int kind = 0; kind < 2; kind++) {
                for (int lead : leads) {
                    Desk desk = Stories.withMembers(kind, 0).then(d -> d.field(11, lead)).tell();
                    check.due("before", desk.align(11), Math.min(desk.size(lead), 4));
                    desk.bits(11, 6, 1, named);
                    check.due("with a bit behind type " + lead, desk.align(11), 4);
                    desk.field(11, 1);
                    check.due("with a byte more", desk.align(11), 4);
                    check.due("finish", desk.finish(11) % 4, 0);
                    check.due("finished", desk.align(11), 4);
                }
            }
        }
    }

    private static void unnamedCounts(Check check) {
        // It takes bits, and a unit where none has room for it.
        Desk desk = struct().tell();
        check.due("unnamed", desk.bits(11, 5, 7, false), 100);
        desk.bits(11, 5, 25, true);
        stands(check, desk, 0, 0, 7);
        desk.bits(11, 6, 1, false);
        desk.bits(11, 6, 31, true);
        stands(check, desk, 1, 4, 1);
        desk.bits(11, 6, 20, false);
        desk.bits(11, 6, 13, false);
        desk.bits(11, 6, 19, true);
        stands(check, desk, 2, 12, 13);
        desk.bits(11, 6, 1, false);
        check.due("finish with an unnamed one at the end", desk.finish(11), 20);
        Desk bytes = struct().then(d -> d.bits(11, 5, 1, false)).tell();
        bytes.field(11, 1);
        check.due("a byte behind an unnamed one", bytes.member(11, 0, 0), 4);
        check.due("finish", bytes.finish(11), 8);
        Desk union = Stories.withMembers(1, 1).then(d -> d.bits(11, 5, 1, false)).tell();
        check.due("finish of a union with an unnamed one", union.finish(11), 4);
    }

    private static void unnamedIsNoMember(Check check) {
        for (int kind = 0; kind < 2; kind++) {
            Desk desk = Stories.withMembers(kind, 1).then(d -> d.bits(11, 5, 3, false)).tell();
            check.due("members", desk.members(11), 1);
            for (int what = 0; what < 4; what++) {
                check.due("member(11, 1, " + what + ")", desk.member(11, 1, what), -1);
            }
            check.due("the next member", desk.bits(11, 5, 3, true), 1);
            check.due("members", desk.members(11), 2);
            Desk many = Stories.withMembers(kind, 0).times(150, d -> d.bits(11, 5, 3, false))
                    .times(99, d -> d.field(11, 1)).tell();
            check.due("the 100th member behind 150 unnamed", many.field(11, 1), 99);
            check.due("the 101st", many.field(11, 1), -3);
        }
    }

    private static void unnamedAlone(Check check) {
        for (int kind = 0; kind < 2; kind++) {
            Desk desk = Stories.withMembers(kind, 0).tell();
            check.due("align before", desk.align(11), 0);
            desk.bits(11, 6, 1, false);
            check.due("align", desk.align(11), 4);
            check.due("members", desk.members(11), 0);
            check.due("size", desk.size(11), 0);
            check.due("finish", desk.finish(11), -2);
            check.due("align as before", desk.align(11), 4);
            desk.field(11, 1);
            check.due("align with a byte", desk.align(11), 4);
        }
    }

    private static void breakEnds(Check check) {
        Desk desk = struct().then(d -> d.bits(11, 5, 1, false)).thenSeparate(11).tell();
        desk.bits(11, 5, 1, true);
        stands(check, desk, 0, 4, 0);
        desk.bits(11, 5, 1, true);
        stands(check, desk, 1, 4, 1);
        desk.separate(11);
        desk.separate(11);
        desk.bits(11, 5, 1, true);
        stands(check, desk, 2, 8, 0);
        check.due("finish", desk.finish(11), 12);
    }

    private static void breakDoesNothingElse(Check check) {
        for (int kind = 0; kind < 2; kind++) {
            Story[] stories = {
                Stories.withMembers(kind, 0),
                Stories.withMembers(kind, 1),
                Stories.withMembers(kind, 1).then(d -> d.field(11, 1)),
                Stories.withMembers(kind, 1).then(d -> d.bits(11, 5, 32, true)),
                Stories.withMembers(kind, 100),
            };
            // None of these ends in a unit with free bits.
            for (int i = 0; i < stories.length; i++) {
                Unchanged.due(check, stories[i], "a break behind story " + i, d -> d.separate(11) ? 1 : 0, 1);
            }
        }
        Story bits = struct().then(d -> d.bits(11, 5, 3, true));
        Story ended = bits.thenSeparate(11);
        check.due("what can be asked is as before", Picture.of(bits).equals(Picture.of(ended)), true);
        Unchanged.due(check, ended, "a break behind a break", d -> d.separate(11) ? 1 : 0, 1);
        check.due("finish", ended.tell().finish(11), 4);
        Desk desk = ended.tell();
        desk.field(11, 1);
        check.due("a byte behind it", desk.member(11, 1, 0), 4);
    }
}
