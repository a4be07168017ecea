/** Counts the checks of one test, prints those that fail, and ends with exit code 1 if one did. */
final class Checks {
    interface Call {
        long answer();
    }

    private final String name;
    private int passed;
    private int failed;

    Checks(String name) {
        this.name = name;
    }

    void same(String what, long got, long want) {
        if (got == want) {
            passed++;
        } else {
            failed++;
            System.out.println(name + ": " + what + " answered " + got + ", due is " + want);
        }
    }

    /** The call throws an exception of exactly this class. */
    void fails(String what, Class<? extends RuntimeException> kind, Call call) {
        String got;
        try {
            got = "the answer " + call.answer();
        } catch (RuntimeException e) {
            if (e.getClass() == kind) {
                passed++;
                return;
            }
            got = e.getClass().getName();
        }
        failed++;
        System.out.println(name + ": " + what + " gave " + got + ", due is " + kind.getName());
    }

    /** All that is TOLD: kind and number, one behind the other. */
    void told(String what, TrueOutlines x, int... wanted) {
        same(what + ": how many are told", x.told(-1, 0), wanted.length / 2);
        for (int i = 0; i < wanted.length / 2 && i < x.told(-1, 0); i++) {
            same(what + ": kind " + i, x.told(i, 0), wanted[2 * i]);
            same(what + ": number " + i, x.told(i, 1), wanted[2 * i + 1]);
        }
    }

    /** All numbers of a PIECE. */
    void piece(String what, TrueOutlines x, int i, int... wanted) {
        for (int k = 0; k < wanted.length; k++) {
            same(what + ": piece(" + i + ", " + k + ")", x.piece(i, k), wanted[k]);
        }
    }

    void end() {
        System.out.println(name + ": " + passed + " checks passed, " + failed + " failed");
        if (failed > 0) {
            System.exit(1);
        }
    }
}
