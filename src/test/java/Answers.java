/** Counts and prints the answers that are not the ones that are due. */
final class Answers {
    private String asking = "";
    private int asked = 0;
    private int wrong = 0;

    /** What is asked from now on belongs to this sentence, and is printed with it when wrong. */
    void ask(String sentence) {
        asking = sentence + ": ";
    }

    void due(String call, long got, long want) {
        due(call, Long.toString(got), Long.toString(want));
    }

    void due(String call, boolean got, boolean want) {
        due(call, got ? 1 : 0, want ? 1 : 0);
    }

    void due(String call, String got, String want) {
        asked++;
        if (!got.equals(want)) {
            wrong(call + " answered " + got + ", due is " + want);
        }
    }

    void wrong(String what) {
        wrong++;
        System.out.println(asking + what);
    }

    int asked() {
        return asked;
    }

    boolean allRight() {
        return wrong == 0;
    }

    void end() {
        System.out.println(asked + " answers, " + wrong + " of them wrong");
        if (asked == 0 || wrong != 0) {
            System.exit(1);
        }
    }
}
