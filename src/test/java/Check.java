/** What the tests share: counted comparisons, and a text put on the tape. */
final class Check {
    interface Call {
        void go();
    }

    private static int right = 0;
    private static int wrong = 0;

    private Check() {
    }

    static void same(String call, long got, long want) {
        if (got == want) {
            right++;
        } else {
            wrong++;
            System.out.println(call + " answered " + got + ", due is " + want);
        }
    }

    static void yes(String call, boolean got) {
        same(call, got ? 1 : 0, 1);
    }

    static void no(String call, boolean got) {
        same(call, got ? 1 : 0, 0);
    }

    static void noGuest(String call, Call work) {
        same(call + " throws", thrown(work), 1);
    }

    static void noRun(String call, Call work) {
        same(call + " throws", thrown(work), 2);
    }

    private static int thrown(Call work) {
        try {
            work.go();
        } catch (RuntimeException e) {
            // the machine's own index exceptions are of classes below this one
            if (e.getClass() == IndexOutOfBoundsException.class) {
                return 1;
            }
            return e.getClass() == java.util.NoSuchElementException.class ? 2 : 3;
        }
        return 0;
    }

    /** Puts a text on the tape in place of what is there. */
    static void put(CarnivalRoad x, String text) {
        x.end(0);
        int[] four = new int[5];
        for (int from = 0; from < text.length(); from += 20) {
            java.util.Arrays.fill(four, 0);
            for (int i = 0; i < 20; i++) {
                int sign = from + i < text.length() ? text.charAt(from + i) : 32;
                four[i / 4] |= (sign & 255) << (24 - i % 4 * 8);
            }
            same("feed", x.feed(four[0], four[1], four[2], four[3], four[4]), from + 20);
        }
        yes("end", x.end(text.length()));
    }

    static int load(CarnivalRoad x, String text) {
        put(x, text);
        return x.load();
    }

    /** Prints how it went and leaves with 1 if a comparison failed. */
    static void close(String name) {
        System.out.println(name + ": " + right + " answers as due, " + wrong + " not");
        if (wrong != 0 || right == 0) {
            System.exit(1);
        }
    }
}
