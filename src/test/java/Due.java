/** Compares answers with those that are due, and ends the test with exit code 1 if one was wrong. */
final class Due {
    private int calls = 0;
    private int wrong = 0;
    private String sentence = "";

    /** The sentence of the document that the next answers are due by. */
    void by(String words) {
        sentence = "\"" + words + "\": ";
    }

    void is(String call, long got, long want) {
        calls++;
        if (got != want) {
            wrong++;
            if (wrong <= 50) {
                System.out.println(sentence + call + " answered " + got + ", due is " + want);
            }
        }
    }

    void is(String call, boolean got, boolean want) {
        is(call, got ? 1 : 0, want ? 1 : 0);
    }

    boolean allRight() {
        return wrong == 0;
    }

    void end() {
        System.out.println(calls + " answers, " + wrong + " of them not as due");
        if (wrong != 0) {
            System.exit(1);
        }
    }
}
