/** Counts the answers that are not the due ones, and tells them. */
public final class Checks {
    private int made = 0;
    private int wrong = 0;

    public void due(String call, double want, double got) {
        made++;
        if (want != got) {
            wrong++;
            if (wrong <= 20) {
                System.out.println(call + " answered " + got + ", due is " + want);
            }
        }
    }

    public void holds(String what, boolean holds) {
        due(what, 1, holds ? 1 : 0);
    }

    public boolean hasWrong() {
        return wrong > 0;
    }

    /** Ends the program with exit code 1 if an answer was wrong. */
    public void close(String name) {
        System.out.println(name + ": " + made + " answers looked at, " + wrong + " wrong");
        if (wrong > 0 || made == 0) {
            System.exit(1);
        }
    }
}
