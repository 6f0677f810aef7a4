import java.util.List;

/** Compares answers with what is due, prints each that differs, and ends a test. */
final class Expect {
    /** A call that answers a number or throws. */
    interface Call {
        long answer();
    }

    private int looked = 0;
    private int wrong = 0;

    void due(String what, long got, long want) {
        looked++;
        if (got != want) {
            wrong++;
            System.out.println(what + " answered " + got + ", due is " + want);
        }
    }

    void refused(String what, Class<? extends RuntimeException> want, Call call) {
        due(what + " throws " + want.getSimpleName(), outcome(call).equals(want.getSimpleName()) ? 1 : 0, 1);
    }

    void same(String what, Call got, Call want) {
        text(what, outcome(got), outcome(want));
    }

    void text(String what, String got, String want) {
        looked++;
        if (!got.equals(want)) {
            wrong++;
            System.out.println(what + " answered " + got + ", due is " + want);
        }
    }

    void texts(String what, List<String> got, List<String> want) {
        due(what + ": answers", got.size(), want.size());
        for (int i = 0; i < Math.min(got.size(), want.size()); i++) {
            text(what, got.get(i), want.get(i));
        }
    }

    void row(String what, long[] got, long[] want) {
        due(what + ": coefficients", got.length, want.length);
        for (int i = 0; i < Math.min(got.length, want.length); i++) {
            due(what + ", coefficient " + i, got[i], want[i]);
        }
    }

    boolean isClean() {
        return wrong == 0;
    }

    void finish() {
        System.out.println(wrong == 0 ? looked + " answers are as due" : wrong + " answers are not as due");
        if (wrong != 0 || looked == 0) {
            System.exit(1);
        }
    }

    static String outcome(Call call) {
        try {
            return Long.toString(call.answer());
        } catch (RuntimeException e) {
            return e.getClass().getSimpleName();
        }
    }
}
