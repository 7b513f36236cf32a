import java.util.NoSuchElementException;

/** Counts wrong answers, prints them, and ends a test with the exit code that is due. */
final class Check {
    /** A call whose answer or refusal is looked at. */
    interface Call {
        long go();
    }

    static final String MISSING = "throws.NoSuchElementException";
    static final String ARGUMENT = "throws.IllegalArgumentException";
    static final String STATE = "throws.IllegalStateException";

    private static int wrong;
    private static int looked;

    private Check() {
    }

    static String outcome(Call call) {
        try {
            return Long.toString(call.go());
        } catch (RuntimeException e) {
            return "throws." + e.getClass().getSimpleName();
        }
    }

    static void due(String what, Call call, long want) {
        due(what, call, Long.toString(want));
    }

    static void due(String what, Call call, String want) {
        looked++;
        String got = outcome(call);
        if (!got.equals(want)) {
            wrong++;
            if (wrong <= 40) {
                System.out.println(what + " answered " + got + ", due is " + want);
            }
        }
    }

    static boolean allRight() {
        return wrong == 0;
    }

    static void end() {
        System.out.println(looked + " answers looked at, " + wrong + " wrong");
        if (wrong > 0 || looked == 0) {
            System.exit(1);
        }
    }

    /** Brings a text on the tape; what is behind it there is filled up with bytes 0. */
    static void bring(TabledGoals x, String text) {
        for (int from = 0; from < text.length(); from += 20) {
            int[] n = words(text, from);
            x.feed(n[0], n[1], n[2], n[3], n[4]);
        }
    }

    static int[] words(String text, int from) {
        int[] n = new int[5];
        for (int i = 0; i < 20; i++) {
            int sign = from + i < text.length() ? text.charAt(from + i) & 255 : 0;
            n[i / 4] = n[i / 4] << 8 | sign;
        }
        return n;
    }

    /** A new object that was told a text. */
    static TabledGoals told(String text) {
        TabledGoals x = new TabledGoals();
        bring(x, text);
        x.text(text.length());
        return x;
    }
}
