/** Counts the checks of a test, and tells those whose answer is not the one that is due. */
final class Check {
    private int right;
    private int wrong;
    private String part = "";

    /** Tells which promise the next checks are for. */
    void promise(String name) {
        part = name;
    }

    void due(String call, long got, long want) {
        if (got == want) {
            right++;
            return;
        }
        wrong++;
        System.out.println(part + ": " + call + " answered " + got + ", due is " + want);
    }

    /** Ends the program, with exit code 1 if a check went wrong or none was made. */
    void end() {
        System.out.println(right + " checks right, " + wrong + " wrong");
        if (wrong > 0 || right == 0) {
            System.exit(1);
        }
    }
}
