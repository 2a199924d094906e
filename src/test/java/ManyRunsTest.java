/** Many made-up runs of at most 512 calls, one object after the other. */
public final class ManyRunsTest {
    public static void main(String[] args) {
        for (int number = 0; number < 6000 && !Check.anyWrong(); number++) {
            MadeUpRun run = new MadeUpRun(number);
            int length = run.someLength();
            run.begin();
            while (run.calls() < length && !Check.anyWrong()) {
                run.goOn();
            }
        }
        Check.done();
    }
}
