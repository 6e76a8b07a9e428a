/** What the project's tests share: it prints every answer that is not due and counts them. */
final class Due {
    interface Call {
        long answer();
    }

    private static int looked = 0;
    private static int wrong = 0;
    private static int sentences = 0;
    private static String told = "";

    private Due() {
    }

    /** The sentence of the document that the answers from here on are held against. */
    static void sentence(String text) {
        sentences++;
        told = "[" + text + "] ";
    }

    static void answer(String call, long want, long got) {
        looked++;
        if (got != want) {
            tellWrong(call + " answered " + got + ", due is " + want);
        }
    }

    private static void tellWrong(String text) {
        wrong++;
        System.out.println(told + text);
    }

    static void yes(String call, boolean got) {
        answer(call, 1, bit(got));
    }

    static void no(String call, boolean got) {
        answer(call, 0, bit(got));
    }

    static long bit(boolean b) {
        return b ? 1 : 0;
    }

    static void noIndex(String name, Call call) {
        refused(name, IndexOutOfBoundsException.class, call);
    }

    static void noArgument(String name, Call call) {
        refused(name, IllegalArgumentException.class, call);
    }

    static void noState(String name, Call call) {
        refused(name, IllegalStateException.class, call);
    }

    // The very class is asked for: the machine's own ArrayIndexOutOfBoundsException would be a fault.
    private static void refused(String name, Class<? extends RuntimeException> want, Call call) {
        looked++;
        String got;
        try {
            got = "answered " + call.answer();
        } catch (RuntimeException e) {
            if (e.getClass() == want) {
                return;
            }
            got = "threw " + e;
        }
        tellWrong(name + " " + got + ", due is " + want.getSimpleName());
    }

    static void end(String test) {
        String of = sentences == 0 ? "" : " of " + sentences + " sentences";
        System.out.println(test + ": " + looked + " answers" + of + " looked at, " + wrong + " not as due");
        if (wrong != 0 || looked == 0) {
            System.exit(1);
        }
    }
}
