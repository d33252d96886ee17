import java.nio.charset.StandardCharsets;

/** What all tests of the project share: counting wrong answers, and texts put on the tape. */
final class Check {
    private int asked;
    private int wrong;

    void due(String what, long got, long want) {
        asked++;
        if (got != want) {
            wrong++;
            if (wrong <= 50) {
                System.out.println(what + " answered " + got + ", due is " + want);
            }
        }
    }

    void close(String name) {
        System.out.println(name + ": " + asked + " answers, " + wrong + " wrong");
        if (wrong != 0 || asked == 0) {
            System.exit(1);
        }
    }

    /**
     * Feeds bytes, with zeros up to twenty, and cuts the tape to them: behind its end there stands what would be
     * good in a row and wrong in a text, so that it is seen if it is read all the same.
     */
    static void feed(CoinsWarden x, byte[] bytes) {
        int before = x.count(5);
        for (int at = 0; at < bytes.length; at += 20) {
            int[] five = new int[5];
            for (int n = 0; n < 20; n++) {
                int sign = at + n < bytes.length ? bytes[at + n] & 255 : 0;
                five[n / 4] = five[n / 4] << 8 | sign;
            }
            x.feed(five[0], five[1], five[2], five[3], five[4]);
        }
        x.end(before + bytes.length);
    }

    static void feed(CoinsWarden x, String text) {
        feed(x, text.getBytes(StandardCharsets.ISO_8859_1));
    }

    static int law(CoinsWarden x, String text) {
        feed(x, text);
        return x.law();
    }

    static int habit(CoinsWarden x, String text) {
        feed(x, text);
        return x.habit();
    }
}
