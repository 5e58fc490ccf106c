/** Holds answers against those that are due; a test ends with exit code 1 if one was not as due. */
final class Due {
    private String sentence = "";
    private int checks = 0;
    private int wrong = 0;

    /** What follows tests these words of the document; they are told with each wrong answer. */
    void says(String words) {
        sentence = "[" + words + "] ";
    }

    void is(String call, long got, long want) {
        checks++;
        if (got != want) {
            wrong++;
            System.out.println(sentence + call + " answered " + got + ", due is " + want);
        }
    }

    void holds(String what, boolean so) {
        is(what, so ? 1 : 0, 1);
    }

    void end() {
        System.out.println(checks + " answers looked at, " + wrong + " not as due");
        if (wrong != 0 || checks == 0) {
            System.exit(1);
        }
    }
}
