/** Counts the checks of a test, and tells those whose answer is not the one that is due. */
final class Check {
    private int right;
    private int wrong;
    private int before;
    private String part = "";

    /** Tells what the next checks are for. */
    void promise(String name) {
        part = name;
        before = right + wrong;
    }

    /**
     * Tells which words of the document the next checks hold: of a promise ("Promise 3"), or ahead of them all ("Terms").
     * SentenceTest looks whether they stand there.
     */
    void sentence(String where, String words) {
        endSentence();
        promise(where + ", '" + words + "'");
    }

    void due(String call, long got, long want) {
        if (got == want) {
            right++;
            return;
        }
        wrong++;
        System.out.println(part + ": " + call + " answered " + got + ", due is " + want);
    }

    /** Ends the program, with exit code 1 if a check went wrong or none was made. */
    void end() {
        endSentence();
        System.out.println(right + " checks right, " + wrong + " wrong");
        if (wrong > 0 || right == 0) {
            System.exit(1);
        }
    }

    private void endSentence() {
        if (!part.isEmpty() && right + wrong == before) {
            wrong++;
            System.out.println(part + ": no check was made");
        }
    }
}
