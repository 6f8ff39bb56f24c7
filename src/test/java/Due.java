import java.util.Arrays;

/** Notes every call whose answer is not the one that is due. */
final class Due {
    private int wrong;
    private int looked;
    private int sentences;
    private String sentence = "";

    /** The next answers are those that this sentence of the document asks for. */
    void of(String where, String words) {
        sentences++;
        sentence = where + " (\"" + words + "\"): ";
    }

    void is(String call, long got, long want) {
        looked++;
        if (got != want) {
            tell(call + " answered " + got + ", due is " + want);
        }
    }

    void is(String call, boolean got, boolean want) {
        is(call, got ? 1 : 0, want ? 1 : 0);
    }

    void isRow(String what, int[] got, int... want) {
        looked++;
        if (!Arrays.equals(got, want)) {
            tell(what + " is " + Arrays.toString(got) + ", due is " + Arrays.toString(want));
        }
    }

    /** The path is made anew, and has these records, dx, dy and kind one behind the other. */
    void isPath(String what, StitchDesk desk, int... want) {
        is(what + ": stitch()", desk.stitch(), want.length / 3);
        isRow(what, Told.records(desk), want);
    }

    /** The path is made anew, and leads the needle to these places, x and y one behind the other. */
    void isWay(String what, StitchDesk desk, int... want) {
        is(what + ": stitch()", desk.stitch(), want.length / 2);
        isRow(what, Told.needlePlaces(desk), want);
    }

    void isThrown(String call, Class<? extends RuntimeException> want, Runnable made) {
        looked++;
        String got = "nothing";
        try {
            made.run();
        } catch (RuntimeException e) {
            got = e.getClass().getSimpleName();
        }
        if (!got.equals(want.getSimpleName())) {
            tell(call + " threw " + got + ", due is " + want.getSimpleName());
        }
    }

    void isTrue(String what, boolean holds) {
        looked++;
        if (!holds) {
            tell(what + " does not hold");
        }
    }

    boolean failed() {
        return wrong > 0;
    }

    void finish() {
        String of = sentences == 0 ? "" : " of " + sentences + " sentences";
        System.out.println(wrong == 0 ? looked + " answers" + of + " are as due" : wrong + " answers are not as due");
        if (wrong != 0) {
            System.exit(1);
        }
    }

    private void tell(String text) {
        wrong++;
        if (wrong <= 50) {
            System.out.println(sentence + text);
        }
    }
}
