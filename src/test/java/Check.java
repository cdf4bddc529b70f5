import java.nio.charset.StandardCharsets;

/** What the tests share: counting wrong answers, and telling a text to a ledger. */
final class Check {
    static final long NO = Long.MIN_VALUE;

    private static int wrong = 0;
    private static int asked = 0;

    private Check() {
    }

    static void due(String what, long got, long want) {
        asked++;
        if (got != want) {
            wrong++;
            if (wrong <= 40) {
                System.out.println(what + " answered " + got + ", due is " + want);
            }
        }
    }

    static void yes(String what, boolean holds) {
        due(what, holds ? 1 : 0, 1);
    }

    static int wrong() {
        return wrong;
    }

    static void end() {
        System.out.println(wrong == 0 ? asked + " answers are as due" : wrong + " answers are not as due");
        if (wrong != 0) {
            System.exit(1);
        }
    }

    static byte[] bytes(String text) {
        return text.getBytes(StandardCharsets.ISO_8859_1);
    }

    /** Feeds the text's bytes, blanks behind it up to twenty. */
    static void feed(LeaseLedger x, byte[] bytes) {
        for (int at = 0; at < bytes.length; at += 20) {
            int[] five = new int[5];
            for (int i = 0; i < 20; i++) {
                int b = at + i < bytes.length ? bytes[at + i] & 255 : 32;
                five[i / 4] = five[i / 4] << 8 | b;
            }
            x.feed(five[0], five[1], five[2], five[3], five[4]);
        }
    }

    static int tell(LeaseLedger x, String text) {
        byte[] bytes = bytes(text);
        feed(x, bytes);
        return x.text(bytes.length);
    }

    static LeaseLedger told(String text) {
        LeaseLedger x = new LeaseLedger();
        int lines = tell(x, text);
        int stops = 0;
        for (int i = 0; i < text.length(); i++) {
            stops += text.charAt(i) == ';' ? 1 : 0;
        }
        due("text \"" + text + "\"", lines, stops);
        return x;
    }

    static int letters(String name) {
        int code = 0;
        for (int i = 0; i < 6; i++) {
            code = code << 5 | (i < name.length() ? name.charAt(i) - 'a' + 1 : 0);
        }
        return code;
    }

    /** lease() with its exceptions as numbers far from every answer. */
    static final long OUT = -1000001;
    static final long NO_SUCH = -1000002;

    static long lease(LeaseLedger x, int lease, int what) {
        try {
            return x.lease(lease, what);
        } catch (IndexOutOfBoundsException e) {
            return e.getClass() == IndexOutOfBoundsException.class ? OUT : -1000003;
        } catch (java.util.NoSuchElementException e) {
            return NO_SUCH;
        }
    }
}
