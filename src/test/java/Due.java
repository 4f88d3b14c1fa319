/** Compares answers with those that are due, and ends a test with exit code 1 if one was not. */
final class Due {
    private static int right = 0;
    private static int wrong = 0;

    private Due() {
    }

    static void same(String call, long got, long want) {
        note(call, String.valueOf(got), String.valueOf(want), got == want);
    }

    static void is(String call, boolean got, boolean want) {
        note(call, String.valueOf(got), String.valueOf(want), got == want);
    }

    static void text(String call, String got, String want) {
        note(call, got, want, want.equals(got));
    }

    static void real(String call, double got, double want) {
        note(call, String.valueOf(got), String.valueOf(want), got == want);
    }

    /** The call throws just this exception, and what the object tells of itself stays as it is. */
    static void fails(Undogroups x, String call, Class<?> kind, Runnable run) {
        long before = x.digest();
        String got = "nothing";
        try {
            run.run();
        } catch (RuntimeException e) {
            got = e.getClass().getName();
        }
        note(call + " throws", got, kind.getName(), got.equals(kind.getName()));
        same("digest() behind " + call, x.digest(), before);
    }

    private static void note(String call, String got, String want, boolean isRight) {
        if (isRight) {
            right++;
        } else {
            wrong++;
            if (wrong <= 40) {
                System.out.println(call + " answered " + got + ", due is " + want);
            }
        }
    }

    static void end() {
        System.out.println(right + " answers as due, " + wrong + " not");
        System.exit(wrong == 0 && right > 0 ? 0 : 1);
    }
}
