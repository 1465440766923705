/** Compares answers with those that are due, and tells the wrong ones with their lines. */
final class Due {
    private final String test;
    private String part = "";
    private int asked;
    private int wrong;

    Due(String test) {
        this.test = test;
    }

    void part(String name) {
        part = name;
    }

    void is(long got, long want) {
        judge(got == want, got, want);
    }

    void is(boolean got, boolean want) {
        judge(got == want, got ? 1 : 0, want ? 1 : 0);
    }

    void end() {
        System.out.println(test + ": " + asked + " answers, " + wrong + " not as due");
        if (wrong != 0) {
            System.exit(1);
        }
    }

    private void judge(boolean right, long got, long want) {
        asked++;
        if (!right) {
            wrong++;
            int line = new Throwable().getStackTrace()[2].getLineNumber();
            System.out.println(test + " line " + line + " (" + part + "): answered " + got + ", due is " + want);
        }
    }
}
