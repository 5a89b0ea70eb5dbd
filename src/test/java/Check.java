/** Counts answers that are not due, and prints them. */
final class Check {
    private final String title;
    private int answers;
    private int wrong;

    Check(String title) {
        this.title = title;
    }

    void same(String call, long answer, long due) {
        answers++;
        if (answer != due) {
            wrong++;
            System.out.println(title + ": " + call + " answered " + answer + ", due is " + due);
        }
    }

    void same(String call, boolean answer, boolean due) {
        same(call, answer ? 1 : 0, due ? 1 : 0);
    }

    void same(String call, String answer, String due) {
        answers++;
        if (!answer.equals(due)) {
            wrong++;
            System.out.println(title + ": " + call + " answered " + answer + ", due is " + due);
        }
    }

    /** The class has to be the very one: those that the machine throws are below it. */
    private void throwsA(Class<?> due, String call, Runnable run) {
        String answer = "nothing";
        try {
            run.run();
        } catch (RuntimeException e) {
            answer = e.getClass().getName();
        }
        same(call + " throws", answer, due.getName());
    }

    void noSuch(String call, Runnable run) {
        throwsA(IndexOutOfBoundsException.class, call, run);
    }

    void outOfRange(String call, Runnable run) {
        throwsA(IllegalArgumentException.class, call, run);
    }

    void notNow(String call, Runnable run) {
        throwsA(IllegalStateException.class, call, run);
    }

    void end() {
        System.out.println(title + ": " + answers + " answers, " + wrong + " of them wrong");
        if (wrong != 0) {
            System.exit(1);
        }
    }
}
