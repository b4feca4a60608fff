/** What the tests of the project share: checks that count what is not as due. */
final class Check {
    private static int wrong = 0;
    private static int checks = 0;

    private Check() {
    }

    static void due(String call, long got, long want) {
        checks++;
        if (got != want) {
            fail(call + " answered " + got + ", due is " + want);
        }
    }

    static void due(String call, boolean got, boolean want) {
        due(call, got ? 1 : 0, want ? 1 : 0);
    }

    static void due(String call, String got, String want) {
        checks++;
        if (!got.equals(want)) {
            fail(call + " answered " + got + ", due is " + want);
        }
    }

    static void dueThrow(String call, Class<? extends RuntimeException> want, Runnable body) {
        checks++;
        try {
            body.run();
        } catch (RuntimeException e) {
            if (e.getClass() != want) {
                fail(call + " threw " + e.getClass().getSimpleName() + ", due is " + want.getSimpleName());
            }
            return;
        }
        fail(call + " threw nothing, due is " + want.getSimpleName());
    }

    static void fail(String text) {
        wrong++;
        if (wrong <= 40) {
            System.out.println(text);
        }
    }

    static void end() {
        System.out.println(wrong == 0 ? checks + " checks, all as due" : wrong + " of " + checks + " checks are not as due");
        if (wrong != 0) {
            System.exit(1);
        }
    }
}
