import java.util.ArrayList;
import java.util.List;
import java.util.function.ToIntFunction;

/** Tests that a call changes nothing: neither what can be asked behind it nor what can be done. */
final class Unchanged {
    private Unchanged() {
    }

    /** The call behind the story answers as due, and leaves all as it was. */
    static void due(Check check, Story story, String call, ToIntFunction<Desk> made, int want) {
        check.due(call, story.then(made).end(), want);
        check.due(call + ", made twice,", story.then(made).then(made).end(), want);
        if (!Picture.of(story).equals(Picture.of(story.then(made)))) {
            check.tell(call + " changed what can be asked");
            return;
        }
        List<Story> without = futures(story, story);
        List<Story> with = futures(story, story.then(made));
        for (int i = 0; i < without.size(); i++) {
            if (!sameEnd(without.get(i), with.get(i))) {
                check.tell(call + " changed something: future " + i + " is another");
                return;
            }
        }
        for (int r : someRecords(story)) {
            if (!sameFreeBits(story, story.then(made), r)) {
                check.tell(call + " changed the free bits of " + r);
            }
        }
    }

    /** With 100 members, free bits show in the size alone, and to bit-fields without a name. */
    private static boolean sameFreeBits(Story one, Story other, int r) {
        for (int i = 1; i <= 32; i++) {
            int width = i;
            ToIntFunction<Desk> filled = desk -> {
                desk.bits(r, 6, width, false);
                desk.field(r, 1);
                return desk.finish(r);
            };
            if (one.then(filled).end() != other.then(filled).end()) {
                return false;
            }
        }
        return true;
    }

    private static boolean sameEnd(Story one, Story other) {
        return one.end() == other.end() && Picture.of(one).equals(Picture.of(other));
    }

    /**
     * What may happen behind a story: such calls as answer by what a desk holds but does not tell,
     * the free bits of a unit, how far an open record reaches, and which types are there already.
     */
    private static List<Story> futures(Story beginning, Story story) {
        List<Story> futures = new ArrayList<>();
        futures.add(story.then(desk -> desk.pointer(0)).then(desk -> desk.pointer(10)));
        futures.add(story.then(desk -> desk.array(1, 1)).then(desk -> desk.array(10, 2)));
        futures.add(story.then(desk -> desk.record(0)).then(desk -> desk.field(desk.types() - 1, 1)));
        futures.add(story.then(desk -> desk.record(1)).then(desk -> desk.field(desk.types() - 1, 1)));
        for (int r : someRecords(beginning)) {
            futures.add(story.then(desk -> desk.field(r, 1)));
            futures.add(story.then(desk -> desk.field(r, 3)));
            futures.add(story.then(desk -> desk.field(r, 5)));
            futures.add(story.then(desk -> desk.bits(r, 5, 1, true)));
            futures.add(story.then(desk -> desk.bits(r, 6, 32, true)));
            futures.add(story.then(desk -> desk.bits(r, 6, 1, false)).then(desk -> desk.bits(r, 6, 1, true)));
            futures.add(story.thenSeparate(r).then(desk -> desk.bits(r, 5, 1, true)));
            futures.add(story.then(desk -> desk.finish(r)).then(desk -> desk.array(r, 1)));
        }
        return futures;
    }

    /** All records, or the first and the last two where there are many. */
    private static List<Integer> someRecords(Story story) {
        List<Integer> records = new ArrayList<>();
        Desk desk = story.tell();
        int types = desk.types();
        for (int t = 0; t < types; t++) {
            if (desk.callsLeft() == 0) {
                desk = story.tell();
            }
            if (desk.members(t) >= 0) {
                records.add(t);
            }
        }
        int count = records.size();
        if (count <= 4) {
            return records;
        }
        return List.of(records.get(0), records.get(1), records.get(count - 2), records.get(count - 1));
    }
}
