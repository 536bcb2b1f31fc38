import java.util.Arrays;

/** What the project's own tests share: counting answers that are not as due, and filling rows. */
final class Due {
    private static int looked = 0;
    private static int wrong = 0;

    private Due() {
    }

    static void due(String call, long got, long want) {
        looked++;
        if (got != want) {
            wrong++;
            System.out.println(call + " answered " + got + ", due is " + want);
        }
    }

    static void that(String what, boolean holds) {
        due(what, holds ? 1 : 0, 1);
    }

    /** Ends the test: exit code 1 if anything was not as due. */
    static void end() {
        System.out.println(wrong == 0 ? looked + " answers are as due" : wrong + " of " + looked + " answers are not as due");
        if (wrong != 0) {
            System.exit(1);
        }
    }

    /** Shelf s holds a row of the sort with the letters of a text. */
    static void letters(MountainsInMourning x, int s, int sort, String text) {
        x.row(s, sort, text.length());
        for (int i = 0; i < text.length(); i++) {
            x.set(s, i, text.charAt(i));
        }
    }

    static void numbers(MountainsInMourning x, int s, int sort, long... numbers) {
        x.row(s, sort, numbers.length);
        for (int i = 0; i < numbers.length; i++) {
            x.set(s, i, numbers[i]);
        }
    }

    /** Peaks of these kinds and one height, 10 apart: each sees its neighbours alone. */
    static MountainsInMourning inARow(int... kinds) {
        MountainsInMourning x = new MountainsInMourning();
        for (int p = 0; p < kinds.length; p++) {
            x.peak(kinds[p], 9, 10 * p, 10);
        }
        return x;
    }

    /** The answers of status for the refusals -1 to -7. */
    static int[] refusals(MountainsInMourning x) {
        int[] counts = new int[7];
        for (int i = 0; i < 7; i++) {
            counts[i] = x.status(11 + i);
        }
        return counts;
    }

    /** That the refusals so far are the told ones. */
    static void refused(MountainsInMourning x, int... counts) {
        int[] got = refusals(x);
        that("refusals " + Arrays.toString(got) + " where " + Arrays.toString(counts) + " are due", Arrays.equals(got, counts));
    }
}
