/** Counts and prints the answers that are not as due. */
final class Due {
    private int wrong;
    private int asked;
    private String sentence = "";

    static SpotRows withEyes(int many) {
        SpotRows x = new SpotRows();
        for (int eye = 0; eye < many; eye++) {
            x.eye();
        }
        return x;
    }

    /** One DAY is LEAST and ENOUGH. */
    static SpotRows withEasyEyes(int many) {
        SpotRows x = withEyes(many);
        x.rules(1, 1);
        return x;
    }

    /** The sentence of the document by which the next answers are due. */
    void says(String newSentence) {
        sentence = "\"" + newSentence + "\": ";
    }

    void is(String call, long got, long want) {
        asked++;
        if (got != want) {
            wrong++;
            System.out.println(sentence + call + " answered " + got + ", due is " + want);
        }
    }

    void yes(String call, boolean got) {
        is(call, got ? 1 : 0, 1);
    }

    /** A call that is met: its answer, and STATUS 0. */
    void met(SpotRows x, String call, long got, long want) {
        is(call, got, want);
        is("status after " + call, x.status(), 0);
    }

    void met(SpotRows x, String call, boolean got) {
        met(x, call, got ? 1 : 0, 1);
    }

    /** A call that is refused: NONE, and its STATUS. */
    void lacks(SpotRows x, String call, long got, int status) {
        is(call, got, SpotRows.NONE);
        is("status after " + call, x.status(), status);
    }

    void lacks(SpotRows x, String call, boolean got, int status) {
        is(call, got ? 1 : 0, 0);
        is("status after " + call, x.status(), status);
    }

    /** A call that tells a FRACTION. */
    void tells(SpotRows x, String call, int got, long top, long bottom) {
        met(x, call, got, top > 0 ? 1 : 0);
        is("top after " + call, x.top(), top);
        is("bottom after " + call, x.bottom(), bottom);
    }

    void end(String name) {
        System.out.println(name + ": " + (asked - wrong) + " of " + asked + " answers are as due");
        if (wrong != 0) {
            System.exit(1);
        }
    }
}
