import java.util.ArrayList;
import java.util.List;
import java.util.function.ToIntFunction;

/** All that can be asked at the end of a story, on as many new desks as the questions need. */
final class Picture {
    private final Story story;
    private final List<Integer> answers = new ArrayList<>();
    private Desk desk;

    private Picture(Story story) {
        this.story = story;
        this.desk = story.tell();
    }

    static List<Integer> of(Story story) {
        Picture picture = new Picture(story);
        picture.askAll();
        return picture.answers;
    }

    private int ask(ToIntFunction<Desk> question) {
        if (desk.callsLeft() == 0) {
            desk = story.tell();
        }
        int answer = question.applyAsInt(desk);
        answers.add(answer);
        return answer;
    }

    private void askAll() {
        int types = ask(Desk::types);
        for (int i = -1; i <= types; i++) {
            int t = i;
            ask(asked -> asked.size(t));
            ask(asked -> asked.align(t));
            askMembers(t, ask(asked -> asked.members(t)));
        }
    }

    private void askMembers(int r, int members) {
        for (int i = -1; i <= members; i++) {
            int k = i;
            for (int j = -1; j <= 4; j++) {
                int what = j;
                ask(asked -> asked.member(r, k, what));
            }
        }
    }
}
