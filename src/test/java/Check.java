/** Counts the answers that are not as due, and tells them. */
final class Check {
    private final String name;
    private int calls;
    private int wrong;

    Check(String name) {
        this.name = name;
    }

    int calls() {
        return calls;
    }

    void due(String call, int got, int want) {
        calls++;
        if (got != want) {
            wrong++;
            System.out.println(name + ": " + call + " answered " + got + ", due is " + want);
        }
    }

    void same(String what, String got, String want) {
        calls++;
        if (!got.equals(want)) {
            wrong++;
            System.out.println(name + ": " + what + "\n  is  " + got + "\n  due " + want);
        }
    }

    void end() {
        System.out.println(name + ": " + calls + " checks, " + wrong + " wrong");
        if (wrong != 0) {
            System.exit(1);
        }
    }
}
