import java.nio.charset.StandardCharsets;
import java.util.Arrays;

/** What the tests share: feeding a text, and counting answers that are not as due. */
final class Due {
    private static int wrong = 0;

    private Due() {
    }

    static void is(String what, long got, long want) {
        if (got != want) {
            wrong++;
            System.out.println(what + " answered " + got + ", due is " + want);
        }
    }

    static void is(String what, boolean got, boolean want) {
        is(what, got ? 1 : 0, want ? 1 : 0);
    }

    /** An answer of a call that may be refused, and the trouble behind it. */
    static void is(String what, NextBell x, long got, long want, int trouble) {
        is(what, got, want);
        is("trouble behind " + what, x.trouble(), trouble);
    }

    static void is(String what, NextBell x, boolean got, boolean want, int trouble) {
        is(what, x, got ? 1 : 0, want ? 1 : 0, trouble);
    }

    static int wrong() {
        return wrong;
    }

    static void end(String test) {
        System.out.println(test + (wrong == 0 ? ": all as due" : ": " + wrong + " answers are not as due"));
        if (wrong != 0) {
            System.exit(1);
        }
    }

    /** Feeds a text, blanks behind it up to a multiple of twenty. */
    static void feed(NextBell x, String text) {
        byte[] told = text.getBytes(StandardCharsets.ISO_8859_1);
        byte[] all = new byte[(told.length + 19) / 20 * 20];
        Arrays.fill(all, (byte) ' ');
        System.arraycopy(told, 0, all, 0, told.length);
        for (int i = 0; i < all.length; i += 20) {
            x.feed(four(all, i), four(all, i + 4), four(all, i + 8), four(all, i + 12), four(all, i + 16));
        }
    }

    private static int four(byte[] all, int i) {
        return (all[i] & 255) << 24 | (all[i + 1] & 255) << 16 | (all[i + 2] & 255) << 8 | all[i + 3] & 255;
    }

    static int tell(NextBell x, String text) {
        feed(x, text);
        return x.street(text.length());
    }

    /** A new object with a street, which must be good. */
    static NextBell street(String text) {
        NextBell x = new NextBell();
        int houses = tell(x, text);
        if (houses < 1) {
            is("street of " + text + " (fault " + x.fault() + " at " + x.where() + ")", houses, 1);
        }
        return x;
    }

    /** The house that led tells, or -99 if it throws what it must. */
    static int led(NextBell x, int i) {
        try {
            return x.led(i);
        } catch (java.util.NoSuchElementException e) {
            return -99;
        }
    }
}
