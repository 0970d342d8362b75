/** Runs of 512 mixed calls, each answer held against that of the slow desk. */
public final class SlowDeskTest {
    private static final int RUNS = 4000;

    public static void main(String[] args) {
        Check check = new Check();
        for (int run = 0; run < RUNS && check.isClean(); run++) {
            MixedCalls calls = new MixedCalls(run);
            Desk desk = new Desk();
            // The calls behind these are questions alone, which look at what the changes have left.
            int changing = 1 + calls.upTo(Desk.CALLS);
            for (int i = 0; i < Desk.CALLS && check.isClean(); i++) {
                MixedCalls.Call call = i < changing ? calls.next() : calls.nextQuestion();
                check.due("run " + run + ", call " + i + ": " + call.text(), call.made().applyAsInt(desk), call.want());
            }
        }
        check.end();
    }
}
