/** What the tests share: counted comparisons, and a text put on the tape. */
final class Check {
    interface Call {
        void go();
    }

    private static int right = 0;
    private static int wrong = 0;

    private Check() {
    }

    static void same(String call, long got, long want) {
        if (got == want) {
            right++;
        } else {
            wrong++;
            System.out.println(call + " answered " + got + ", due is " + want);
        }
    }

    static void yes(String call, boolean got) {
        same(call, got ? 1 : 0, 1);
    }

    static void no(String call, boolean got) {
        same(call, got ? 1 : 0, 0);
    }

    static void noGuest(String call, Call work) {
        same(call + " throws", thrown(work), 1);
    }

    static void noRun(String call, Call work) {
        same(call + " throws", thrown(work), 2);
    }

    private static int thrown(Call work) {
        try {
            work.go();
        } catch (RuntimeException e) {
            // the machine's own index exceptions are of classes below this one
            if (e.getClass() == IndexOutOfBoundsException.class) {
                return 1;
            }
            return e.getClass() == java.util.NoSuchElementException.class ? 2 : 3;
        }
        return 0;
    }

    /** Puts a text on the tape in place of what is there. */
    static void put(CarnivalRoad x, String text) {
        x.end(0);
        int[] four = new int[5];
        for (int from = 0; from < text.length(); from += 20) {
            java.util.Arrays.fill(four, 0);
            for (int i = 0; i < 20; i++) {
                int sign = from + i < text.length() ? text.charAt(from + i) : 32;
                four[i / 4] |= (sign & 255) << (24 - i % 4 * 8);
            }
            same("feed", x.feed(four[0], four[1], four[2], four[3], four[4]), from + 20);
        }
        yes("end", x.end(text.length()));
    }

    static int load(CarnivalRoad x, String text) {
        put(x, text);
        return x.load();
    }

    /**
     * All that an object answers without being changed, as one text; two texts that are
     * the same tell that nothing was done between. It takes some 90 calls with three guests.
     */
    static String seen(CarnivalRoad x) {
        StringBuilder text = new StringBuilder();
        for (int what = 0; what < 5; what++) {
            tell(text, "look " + what, x.look(what));
        }
        for (int g = 0; g < x.look(0); g++) {
            for (int what = 0; what < 5; what++) {
                tell(text, "of " + g + " " + what, x.of(g, what));
            }
            tell(text, "place " + g, x.place(g));
            tell(text, "passes " + g, x.passes(g));
        }
        tell(text, "fault", x.fault(0));
        tell(text, "fault's place", x.fault(1));
        tell(text, "orders", x.orders());
        tell(text, "rank", x.rank());
        tell(text, "noise", x.noise());
        for (int what = 0; what < 3; what++) {
            tell(text, "why " + what, x.why(what));
        }
        if (x.look(4) == 1) {
            tellRun(text, x);
        }
        return text.toString();
    }

    private static void tellRun(StringBuilder text, CarnivalRoad x) {
        tell(text, "minute", x.minute());
        tell(text, "hole", x.hole());
        tell(text, "rowLong", x.rowLong());
        tell(text, "ends 0", x.ends(0));
        tell(text, "ends 1", x.ends(1));
        for (int g = 0; g < x.look(0); g++) {
            for (int what = 0; what < 5; what++) {
                tell(text, "at " + g + " " + what, x.at(g, what));
            }
        }
        for (int cell = 0; cell < x.look(2); cell++) {
            tell(text, "who " + cell, x.who(cell));
        }
    }

    private static void tell(StringBuilder text, String call, int answer) {
        text.append(call).append(" = ").append(answer).append("\n");
    }

    /** Holds that an object answers as it did before. */
    static void stays(CarnivalRoad x, String before, String call) {
        String now = seen(x);
        if (!now.equals(before)) {
            System.out.println("behind " + call + " it is\n" + now + "and was\n" + before);
        }
        yes("all is as before " + call, now.equals(before));
    }

    /** Holds that so many bytes are on the tape, and leaves them there. */
    static void tape(CarnivalRoad x, int bytes) {
        no("end beyond " + bytes, x.end(bytes + 1));
        yes("end of " + bytes, x.end(bytes));
    }

    /** An object with guests of five numbers each. */
    static CarnivalRoad with(int... traits) {
        CarnivalRoad x = new CarnivalRoad();
        for (int i = 0; i + 4 < traits.length; i += 5) {
            same("guest", x.guest(traits[i], traits[i + 1], traits[i + 2], traits[i + 3], traits[i + 4]), i / 5);
        }
        return x;
    }

    /** An object with floats of these louds, one cell long, TALL 5. */
    static CarnivalRoad floats(int... louds) {
        int[] traits = new int[5 * louds.length];
        for (int i = 0; i < louds.length; i++) {
            traits[5 * i + 1] = 1;
            traits[5 * i + 2] = louds[i];
            traits[5 * i + 3] = 5;
        }
        return with(traits);
    }

    /** A row as lay wants it, the first guest lowest. */
    static int packed(int... guests) {
        int bits = 0;
        for (int i = 0; i < guests.length; i++) {
            bits |= guests[i] << (4 * i);
        }
        return bits;
    }

    static void lay(CarnivalRoad x, int... guests) {
        yes("lay", x.lay(packed(guests)));
    }

    /** Holds that THE ROW has these, and none behind them. */
    static void row(CarnivalRoad x, int... guests) {
        for (int i = 0; i < guests.length; i++) {
            same("place " + i, x.place(i), guests[i]);
        }
        same("place behind all", x.place(guests.length), CarnivalRoad.NONE);
    }

    /** Holds where THE ROW breaks a bar first. */
    static void why(CarnivalRoad x, int bar, int lesser, int greater) {
        same("why bar", x.why(0), bar);
        same("why lesser", x.why(1), lesser);
        same("why greater", x.why(2), greater);
    }

    /** Holds that a text is read as so many bars. */
    static void fine(CarnivalRoad x, int bars, String text) {
        same("load '" + text + "'", load(x, text), bars);
        same("fault of '" + text + "'", x.fault(0), 0);
        same("its place in '" + text + "'", x.fault(1), CarnivalRoad.NONE);
        same("bars of '" + text + "'", x.look(1), bars);
    }

    /** Holds that a text has this fault first. */
    static void fault(CarnivalRoad x, int fault, int place, String text) {
        same("load '" + text + "'", load(x, text), CarnivalRoad.NONE);
        same("fault of '" + text + "'", x.fault(0), fault);
        same("its place in '" + text + "'", x.fault(1), place);
    }

    /** Holds that there is no run. */
    static void over(CarnivalRoad x, String call) {
        same("run behind " + call, x.look(4), 0);
        noRun("minute behind " + call, () -> x.minute());
    }

    /** Prints how it went and leaves with 1 if a comparison failed. */
    static void close(String name) {
        System.out.println(name + ": " + right + " answers as due, " + wrong + " not");
        if (wrong != 0 || right == 0) {
            System.exit(1);
        }
    }
}
