/** Counts answers that are not as due, and ends a test with exit code 1 if there was one. */
final class Check {
    private int calls = 0;
    private int wrong = 0;
    private String part = "";

    void at(String newPart) {
        part = newPart;
    }

    void due(String call, long got, long want) {
        calls++;
        if (got != want) {
            wrong++;
            System.out.println(part + ": " + call + " answered " + got + ", due is " + want);
        }
    }

    void holds(String what, boolean held) {
        due(what, held ? 1 : 0, 1);
    }

    void end() {
        System.out.println(calls + " answers looked at, " + wrong + " not as due");
        if (calls == 0 || wrong != 0) {
            System.exit(1);
        }
    }
}
