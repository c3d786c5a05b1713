/**
 * The boundaries that promises 21 to 29 name: a run that begins, ends, is over, and what is
 * asked of it. Above each test stands the promise and the sentence that it holds.
 */
public final class EdgeRunTests {
    private static final int NONE = CarnivalRoad.NONE;
    private static final int FLOAT = 0;
    private static final int BAND = 1;
    private static final int FOOT = 3;
    private static final int GIANT = 4;
    private static final int[] NO_CELLS = {-1, 50, Integer.MIN_VALUE, Integer.MAX_VALUE};

    private EdgeRunTests() {
    }

    public static void main(String[] args) {
        noRunAtFirst();
        noRunBehindEachCallThatEndsIt();
        beginAgain();
        beginWithoutGuests();
        beginWhereOneCannotPass();
        runSoManyMinutes();
        runUntilItEnds();
        runOfNoMinutes();
        runOfAnotherNumber();
        minuteAtFirst();
        atWaits();
        atIsOnTheRoad();
        atPlaysOrRests();
        atIsOut();
        atTheMinutes();
        atAnotherWhat();
        atNoSuchGuest();
        whoIsAtACell();
        whoIsNobody();
        whoAtNoSuchCell();
        holeBetweenTwo();
        holeTheMost();
        holeWithThoseOutAside();
        holeWithoutTwo();
        rowLongFromTailToHead();
        rowLongWithinTheRoad();
        rowLongOfNobody();
        endsBeforeAndBehind();
        endsIfEachWentAlone();
        endsOfAnotherWhat();
        endsLeavesTheRunAlone();
        illEachOnce();
        illOneThatIsOut();
        illNoSuchGuest();
        Check.close("EdgeRunTests");
    }

    private static CarnivalRoad road(int cells, int gap, int... guests) {
        CarnivalRoad x = new CarnivalRoad();
        Check.yes("road", x.road(cells, gap));
        for (int i = 0; i < guests.length; i += 2) {
            Check.same("guest", x.guest(guests[i], guests[i + 1], 0, 1, 0), i / 2);
        }
        return x;
    }

    private static CarnivalRoad begun(int cells, int gap, int... guests) {
        CarnivalRoad x = road(cells, gap, guests);
        Check.yes("begin", x.begin());
        return x;
    }

    private static void go(CarnivalRoad x, int minutes) {
        Check.same("run", x.run(minutes), minutes);
    }

    private static void noRun(CarnivalRoad x) {
        Check.same("look", x.look(4), 0);
        Check.noRun("run", () -> x.run(1));
        Check.noRun("run of another number", () -> x.run(501));
        Check.noRun("minute", () -> x.minute());
        Check.noRun("who", () -> x.who(0));
        Check.noRun("who at no such cell", () -> x.who(-1));
        Check.noRun("hole", () -> x.hole());
        Check.noRun("rowLong", () -> x.rowLong());
        Check.noRun("ends", () -> x.ends(0));
        Check.noRun("ends of another what", () -> x.ends(2));
        if (x.look(0) > 0) {
            Check.noRun("at", () -> x.at(0, 0));
            Check.noRun("at another what", () -> x.at(0, 5));
            Check.noRun("ill", () -> x.ill(0));
        }
    }

    /** Promises 22 to 29: "NoSuchElementException: there is no run." */
    private static void noRunAtFirst() {
        noRun(new CarnivalRoad());
        noRun(road(5, 1, FLOAT, 1));
        CarnivalRoad x = road(5, 1);
        Check.no("begin", x.begin());
        noRun(x);
    }

    /** Promises 22 to 29: "NoSuchElementException: there is no run.": the one that was is over. */
    private static void noRunBehindEachCallThatEndsIt() {
        for (int call = 0; call < 7; call++) {
            CarnivalRoad x = begun(5, 1, FLOAT, 1, BAND, 1);
            go(x, 3);
            switch (call) {
                case 0: Check.same("guest", x.guest(FLOAT, 1, 0, 1, 0), 2); break;
                case 1: Check.yes("lay", x.lay(0x10)); break;
                case 2: Check.yes("pick", x.pick(0)); break;
                case 3: Check.same("best", x.best(), 0); break;
                case 4: Check.yes("road", x.road(5, 1)); break;
                case 5: Check.yes("wire", x.wire(0, 1)); break;
                default: Check.yes("stand", x.stand(0, 1)); break;
            }
            noRun(x);
            Check.yes("begin", x.begin());
            Check.same("minute", x.minute(), 0);
            Check.same("head", x.at(0, 0), -1);
        }
    }

    /** Promise 21: "A run begins (one that goes is over): true". */
    private static void beginAgain() {
        CarnivalRoad x = begun(5, 1, FLOAT, 1, BAND, 1);
        String first = Check.seen(x);
        go(x, 4);
        Check.yes("ill", x.ill(1));
        Check.yes("begin again", x.begin());
        Check.stays(x, first, "another begin");
        Check.same("to the end", x.run(500), x.ends(0));
        Check.yes("begin behind the end", x.begin());
        Check.stays(x, first, "another begin");
    }

    /** Promise 21: "false, and nothing is done: no GUESTS". */
    private static void beginWithoutGuests() {
        CarnivalRoad x = road(5, 1);
        Check.no("begin", x.begin());
        Check.same("look", x.look(4), 0);
        Check.same("guest", x.guest(FLOAT, 1, 0, 1, 0), 0);
        Check.yes("begin of one", x.begin());
    }

    /** Promise 21: "false, and nothing is done: .. or one can't pass". */
    private static void beginWhereOneCannotPass() {
        for (int g = 0; g < 8; g++) {
            CarnivalRoad x = new CarnivalRoad();
            for (int i = 0; i < 8; i++) {
                Check.same("guest", x.guest(FLOAT, 1, 0, i == g ? 6 : 5, 0), i);
            }
            Check.yes("wire", x.wire(g, 5));
            Check.no("begin", x.begin());
            Check.same("look", x.look(4), 0);
            Check.yes("wire", x.wire(g, 6));
            Check.yes("begin", x.begin());
        }
        CarnivalRoad y = road(7, 0, FLOAT, 1);
        Check.same("guest", y.guest(FLOAT, 1, 0, 2, 0), 1);
        Check.yes("wire at the last cell", y.wire(6, 1));
        Check.no("begin", y.begin());
    }

    /** Promise 22: "So many minutes of the run (0 .. 500) ..: how many." */
    private static void runSoManyMinutes() {
        CarnivalRoad x = road(50, 0, BAND, 1, BAND, 1);
        for (int cell = 0; cell < 50; cell++) {
            Check.yes("stand", x.stand(cell, 9));
        }
        Check.yes("begin", x.begin());
        go(x, 1);
        go(x, 499);
        Check.same("minute", x.minute(), 500);
        Check.yes("begin", x.begin());
        go(x, 500);
        Check.same("minute", x.minute(), 500);
        Check.same("head", x.at(0, 0), 26);
        go(x, 2);
        Check.same("minute", x.minute(), 502);
    }

    /** Promise 22: "or until it ends: how many". */
    private static void runUntilItEnds() {
        CarnivalRoad x = begun(5, 0, FLOAT, 1);
        go(x, 2);
        Check.same("one more than it has", x.run(5), 4);
        Check.same("minute", x.minute(), 6);
        Check.same("behind its end", x.run(1), 0);
        Check.same("behind its end", x.run(500), 0);
        Check.same("minute", x.minute(), 6);
        Check.yes("begin", x.begin());
        Check.same("just as many as it has", x.run(6), 6);
        Check.same("behind its end", x.run(6), 0);
    }

    /** Promise 22: "(0 .. 500)": none at all. */
    private static void runOfNoMinutes() {
        CarnivalRoad x = begun(5, 0, FLOAT, 1);
        Check.same("run", x.run(0), 0);
        Check.same("minute", x.minute(), 0);
        go(x, 3);
        Check.same("run", x.run(0), 0);
        Check.same("minute", x.minute(), 3);
        Check.same("head", x.at(0, 0), 2);
    }

    /** Promise 22: "NONE for another number." */
    private static void runOfAnotherNumber() {
        CarnivalRoad x = begun(5, 0, FLOAT, 1, FLOAT, 1);
        go(x, 3);
        String before = Check.seen(x);
        int[] none = {-1, 501, Integer.MIN_VALUE, Integer.MAX_VALUE};
        for (int minutes : none) {
            Check.same("run " + minutes, x.run(minutes), NONE);
        }
        Check.stays(x, before, "run");
        Check.same("to the end", x.run(500), 4);
        for (int minutes : none) {
            Check.same("run " + minutes + " behind the end", x.run(minutes), NONE);
        }
    }

    /** Promise 23: "The minute of the run (0 at first)." */
    private static void minuteAtFirst() {
        CarnivalRoad x = begun(5, 0, FLOAT, 1);
        for (int again = 0; again < 2; again++) {
            for (int minute = 0; minute < 6; minute++) {
                Check.same("minute", x.minute(), minute);
                go(x, 1);
            }
            Check.same("minute", x.minute(), 6);
            Check.yes("begin", x.begin());
        }
        Check.same("minute", x.minute(), 0);
    }

    private static void at(CarnivalRoad x, int g, int head, int tail, int state, int came, int out) {
        int[] due = {head, tail, state, came, out};
        for (int what = 0; what < 5; what++) {
            Check.same("at " + g + " " + what + " at minute " + x.minute(), x.at(g, what), due[what]);
        }
    }

    /** Promise 24: "2 0 it waits". */
    private static void atWaits() {
        CarnivalRoad x = begun(5, 3, FLOAT, 2, FLOAT, 5);
        at(x, 0, -1, -2, 0, NONE, NONE);
        at(x, 1, -1, -5, 0, NONE, NONE);
        go(x, 5);
        at(x, 0, 4, 3, 1, 1, NONE);
        at(x, 1, -1, -5, 0, NONE, NONE);
        go(x, 1);
        at(x, 0, 5, 4, 1, 1, NONE);
        at(x, 1, 0, -4, 1, 6, NONE);
    }

    /** Promise 24: "1 it is on the ROAD": from its head at 0 on, until its tail is beyond the last cell. */
    private static void atIsOnTheRoad() {
        CarnivalRoad x = begun(3, 0, FLOAT, 5);
        at(x, 0, -1, -5, 0, NONE, NONE);
        go(x, 1);
        at(x, 0, 0, -4, 1, 1, NONE);
        go(x, 6);
        at(x, 0, 6, 2, 1, 1, NONE);
        go(x, 1);
        at(x, 0, 7, 3, 3, 1, 8);
    }

    /** Promise 24: "2 it plays or rests there". */
    private static void atPlaysOrRests() {
        CarnivalRoad x = road(12, 0, GIANT, 1);
        Check.yes("stand", x.stand(0, 1));
        Check.yes("begin", x.begin());
        go(x, 2);
        at(x, 0, 0, 0, 2, 2, NONE);
        go(x, 1);
        at(x, 0, 0, 0, 1, 2, NONE);
        go(x, 1);
        at(x, 0, 1, 1, 1, 2, NONE);
        go(x, 16);
        at(x, 0, 9, 9, 2, 2, NONE);
        go(x, 2);
        at(x, 0, 9, 9, 2, 2, NONE);
        go(x, 1);
        at(x, 0, 9, 9, 1, 2, NONE);
    }

    /** Promise 24: "3 it is out". */
    private static void atIsOut() {
        CarnivalRoad x = begun(2, 0, FLOAT, 1, FLOAT, 1);
        go(x, 2);
        at(x, 0, 1, 1, 1, 1, NONE);
        go(x, 1);
        at(x, 0, 2, 2, 3, 1, 3);
        at(x, 1, 1, 1, 1, 2, NONE);
        go(x, 1);
        at(x, 0, 2, 2, 3, 1, 3);
        at(x, 1, 2, 2, 3, 2, 4);
        Check.same("run", x.run(500), 0);
        at(x, 1, 2, 2, 3, 2, 4);
    }

    /** Promise 24: "3, 4 the minutes at which it came on the ROAD, was out (NONE: not yet)". */
    private static void atTheMinutes() {
        CarnivalRoad x = begun(2, 0, FOOT, 1, FLOAT, 3);
        int[][] came = {{0, NONE, NONE}, {1, NONE, NONE}, {2, 2, NONE}, {3, 2, NONE}, {4, 2, 4}, {5, 2, 4}, {8, 2, 4}};
        for (int[] row : came) {
            x.run(row[0] - x.minute());
            Check.same("minute", x.minute(), row[0]);
            Check.same("0 came", x.at(0, 3), row[1]);
            Check.same("1 came", x.at(1, 3), row[2]);
        }
        Check.same("0 was out", x.at(0, 4), 6);
        Check.same("1 was not yet", x.at(1, 4), NONE);
        go(x, 1);
        Check.same("1 was out", x.at(1, 4), 9);
        Check.yes("begin", x.begin());
        Check.same("not yet", x.at(0, 3), NONE);
        Check.same("not yet", x.at(0, 4), NONE);
    }

    /** Promise 24: "NONE - 99 for another what." */
    private static void atAnotherWhat() {
        CarnivalRoad x = begun(5, 0, FLOAT, 1);
        int[] others = {5, -1, 6, Integer.MIN_VALUE, Integer.MAX_VALUE};
        for (int minute = 0; minute < 2; minute++) {
            for (int what : others) {
                Check.same("at " + what, x.at(0, what), -100);
            }
            go(x, 6 - 6 * minute);
        }
    }

    /** Promise 24: "IndexOutOfBoundsException: no such GUEST." */
    private static void atNoSuchGuest() {
        for (int count = 0; count <= 8; count++) {
            CarnivalRoad x = road(5, 0);
            for (int g = 0; g < count; g++) {
                Check.same("guest", x.guest(FLOAT, 1, 0, 1, 0), g);
            }
            int[] none = {-1, count, 8, Integer.MIN_VALUE, Integer.MAX_VALUE};
            // with and without a run: it stands first in the face
            for (int again = 0; again < 2; again++) {
                for (int g : none) {
                    Check.noGuest("at " + g, () -> x.at(g, 0));
                    Check.noGuest("at " + g + " another what", () -> x.at(g, 5));
                }
                Check.same("begin", x.begin() ? 1 : 0, count > 0 ? 1 : 0);
            }
            if (count > 0) {
                Check.same("the last", x.at(count - 1, 0), -1);
            }
        }
    }

    /** Promise 25: "Who is at a cell": from its tail to its head, both with it. */
    private static void whoIsAtACell() {
        CarnivalRoad x = begun(8, 1, FLOAT, 3, FLOAT, 1);
        go(x, 6);
        int[] due = {NONE, 1, NONE, 0, 0, 0, NONE, NONE};
        for (int cell = 0; cell < 8; cell++) {
            Check.same("who at " + cell, x.who(cell), due[cell]);
        }
        go(x, 4);
        int[] later = {NONE, NONE, NONE, NONE, NONE, 1, NONE, 0};
        for (int cell = 0; cell < 8; cell++) {
            Check.same("who at " + cell, x.who(cell), later[cell]);
        }
        CarnivalRoad y = begun(2, 0, FLOAT, 5);
        go(y, 1);
        Check.same("the head alone is there", y.who(0), 0);
        Check.same("not yet", y.who(1), NONE);
        go(y, 5);
        Check.same("no more", y.who(0), NONE);
        Check.same("the tail alone is there", y.who(1), 0);
    }

    /** Promise 25: "NONE for nobody". */
    private static void whoIsNobody() {
        CarnivalRoad x = begun(3, 0, FLOAT, 1);
        for (int cell = 0; cell < 3; cell++) {
            Check.same("they wait", x.who(cell), NONE);
        }
        go(x, 4);
        for (int cell = 0; cell < 3; cell++) {
            Check.same("they are out", x.who(cell), NONE);
        }
        Check.yes("begin", x.begin());
        go(x, 2);
        Check.yes("ill", x.ill(0));
        Check.same("it is ill", x.who(1), NONE);
    }

    /** Promise 25: "or no such cell". */
    private static void whoAtNoSuchCell() {
        CarnivalRoad x = begun(3, 0, FLOAT, 5);
        for (int minute = 0; minute < 8; minute++) {
            // its cells before the road and beyond it are none of the road's
            Check.same("who at -1", x.who(-1), NONE);
            Check.same("who at -4", x.who(-4), NONE);
            Check.same("who at 3", x.who(3), NONE);
            Check.same("who at 4", x.who(4), NONE);
            for (int cell : NO_CELLS) {
                Check.same("who at " + cell, x.who(cell), NONE);
            }
            go(x, 1);
        }
    }

    /** Promise 26: "The most cells that are free between two neighbours on the ROAD .. now". */
    private static void holeBetweenTwo() {
        for (int gap = 0; gap <= 3; gap++) {
            CarnivalRoad x = begun(20, gap, FLOAT, 2, FLOAT, 3);
            go(x, gap + 3);
            Check.same("as narrow as can be", x.hole(), gap);
            go(x, 5);
            Check.same("the same yet", x.hole(), gap);
        }
        CarnivalRoad y = begun(20, 0, FLOAT, 1, FOOT, 1);
        go(y, 2);
        Check.same("none free", y.hole(), 0);
        go(y, 1);
        Check.same("it opens", y.hole(), 1);
        go(y, 1);
        Check.same("it opens and closes by one", y.hole(), 1);
        go(y, 13);
        Check.same("it has opened", y.hole(), 8);
    }

    /** Promise 26: "The most cells that are free". */
    private static void holeTheMost() {
        CarnivalRoad x = begun(40, 0, FLOAT, 1, FOOT, 1, FLOAT, 1);
        go(x, 10);
        // 9, 4, 3
        Check.same("the first hole", x.hole(), 4);
        CarnivalRoad y = road(40, 0, FLOAT, 1, FLOAT, 1, FOOT, 1);
        Check.yes("begin", y.begin());
        go(y, 10);
        // 9, 8, and on foot from minute 4 on: 3
        Check.same("the last hole", y.hole(), 4);
    }

    /** Promise 26: "(those out aside)". */
    private static void holeWithThoseOutAside() {
        CarnivalRoad x = begun(9, 0, FLOAT, 1, FLOAT, 2, FLOAT, 1);
        go(x, 6);
        Check.same("none free", x.hole(), 0);
        Check.yes("ill", x.ill(1));
        Check.same("the cells of the one between", x.hole(), 2);
        CarnivalRoad y = begun(3, 0, FLOAT, 1, FOOT, 1);
        go(y, 3);
        Check.same("both on the road", y.hole(), 1);
        go(y, 1);
        Check.same("the first is out", y.hole(), 0);
    }

    /** Promise 26: "0 without two." */
    private static void holeWithoutTwo() {
        CarnivalRoad x = begun(9, 3, FLOAT, 1, FLOAT, 1);
        Check.same("nobody", x.hole(), 0);
        go(x, 4);
        Check.same("one, and one that waits", x.hole(), 0);
        go(x, 1);
        Check.same("two", x.hole(), 3);
        go(x, 4);
        Check.same("two", x.hole(), 3);
        go(x, 1);
        Check.same("one, and one that is out", x.hole(), 0);
        Check.same("run", x.run(500), 4);
        Check.same("nobody", x.hole(), 0);
    }

    /** Promise 27: "How many cells the row has now, from the last tail on the ROAD .. to the first head". */
    private static void rowLongFromTailToHead() {
        CarnivalRoad x = begun(20, 2, FLOAT, 2, FLOAT, 3);
        go(x, 7);
        // 6 5, 2 1 0
        Check.same("all of both", x.rowLong(), 7);
        go(x, 3);
        Check.same("from cell 3 to cell 9", x.rowLong(), 7);
        Check.yes("ill", x.ill(0));
        Check.same("the second one alone", x.rowLong(), 3);
        CarnivalRoad y = begun(20, 2, FLOAT, 2, FLOAT, 3);
        go(y, 10);
        Check.yes("ill", y.ill(1));
        Check.same("the first one alone", y.rowLong(), 2);
    }

    /** Promise 27: "(0 at least) .. (R - 1 at most)". */
    private static void rowLongWithinTheRoad() {
        CarnivalRoad x = begun(3, 0, FLOAT, 5);
        int[] due = {0, 1, 2, 3, 3, 3, 2, 1, 0};
        for (int minute = 0; minute < due.length; minute++) {
            Check.same("rowLong at minute " + minute, x.rowLong(), due[minute]);
            Check.same("run", x.run(1), minute < 8 ? 1 : 0);
        }
        CarnivalRoad most = begun(50, 0, FLOAT, 5, FLOAT, 5, FLOAT, 5, FLOAT, 5, FLOAT, 5, FLOAT, 5, FLOAT, 5,
            FLOAT, 5);
        go(most, 39);
        Check.same("their cells before the road don't count", most.rowLong(), 39);
        go(most, 15);
        Check.same("nor those beyond it", most.rowLong(), 36);
    }

    /** Promise 27: "0 if nobody is there." */
    private static void rowLongOfNobody() {
        CarnivalRoad x = begun(3, 0, FLOAT, 2);
        Check.same("it waits", x.rowLong(), 0);
        go(x, 5);
        Check.same("it is out", x.rowLong(), 0);
        Check.yes("begin", x.begin());
        go(x, 2);
        Check.same("it is there", x.rowLong(), 2);
        Check.yes("ill", x.ill(0));
        Check.same("it is ill", x.rowLong(), 0);
        // the first waits yet, so nobody is there
        CarnivalRoad y = begun(3, 0, FOOT, 1, FLOAT, 1);
        go(y, 1);
        Check.same("both wait", y.rowLong(), 0);
    }

    /** Promise 28: "The minute at which the run ends (what 0)": at its begin, within it, behind its end. */
    private static void endsBeforeAndBehind() {
        CarnivalRoad x = road(6, 1, FLOAT, 2, FLOAT, 1, GIANT, 3, BAND, 1);
        Check.yes("stand", x.stand(2, 2));
        Check.yes("begin", x.begin());
        int end = x.ends(0);
        CarnivalRoad y = road(6, 1, FLOAT, 2, FLOAT, 1, GIANT, 3, BAND, 1);
        Check.yes("stand", y.stand(2, 2));
        Check.yes("begin", y.begin());
        Check.same("as foretold", y.run(500), end);
        for (int minute = 0; minute < end; minute++) {
            Check.same("ends at minute " + minute, x.ends(0), end);
            go(x, 1);
        }
        Check.same("it has ended", x.run(1), 0);
        Check.same("ends", x.ends(0), end);
        CarnivalRoad one = begun(1, 0, FLOAT, 1);
        Check.same("the earliest end", one.ends(0), 2);
        Check.yes("ill", one.ill(0));
        Check.same("ended before its first minute", one.ends(0), 0);
    }

    /** Promise 28: "what 1: if each GUEST went alone, the longest of them". */
    private static void endsIfEachWentAlone() {
        CarnivalRoad x = road(20, 1, FLOAT, 3, FOOT, 1, BAND, 1);
        Check.yes("stand", x.stand(2, 9));
        Check.yes("begin", x.begin());
        // 23 + 9; head 2 at minute 6, 9 minutes, head 3 at minute 16: 50; 21 + 18
        Check.same("alone", x.ends(1), 50);
        Check.yes("not as all together", x.ends(0) > 50);
        Check.same("run", x.run(500), x.ends(0));
        Check.same("alone, behind the end", x.ends(1), 50);
        for (int g = 0; g < 3; g++) {
            int[] traits = {FLOAT, 3, FOOT, 1, BAND, 1};
            CarnivalRoad one = road(20, 1, traits[2 * g], traits[2 * g + 1]);
            Check.yes("stand", one.stand(2, 9));
            Check.yes("begin", one.begin());
            Check.same("alone is all", one.ends(1), one.ends(0));
        }
    }

    /** Promise 28: "NONE for another what." */
    private static void endsOfAnotherWhat() {
        CarnivalRoad x = begun(5, 0, FLOAT, 1);
        int[] others = {2, -1, Integer.MIN_VALUE, Integer.MAX_VALUE};
        for (int what : others) {
            Check.same("ends " + what, x.ends(what), NONE);
        }
    }

    /** Promise 28: it foretells, and no minute of the run goes by. */
    private static void endsLeavesTheRunAlone() {
        CarnivalRoad x = road(6, 1, FLOAT, 2, GIANT, 1, BAND, 1);
        Check.yes("stand", x.stand(2, 2));
        Check.yes("begin", x.begin());
        go(x, 7);
        Check.yes("ill", x.ill(0));
        String before = Check.seen(x);
        Check.yes("ends", x.ends(0) > 7);
        Check.yes("alone", x.ends(1) > 7);
        Check.stays(x, before, "ends");
        CarnivalRoad y = road(6, 1, FLOAT, 2, GIANT, 1, BAND, 1);
        Check.yes("stand", y.stand(2, 2));
        Check.yes("begin", y.begin());
        go(y, 7);
        Check.yes("ill", y.ill(0));
        Check.same("goes on as without", x.run(500), y.run(500));
    }

    /** Promise 29: "GUEST g falls ILL: true": one that waits, goes, plays or rests. */
    private static void illEachOnce() {
        CarnivalRoad x = road(9, 0, FLOAT, 1, FLOAT, 1, FLOAT, 1);
        Check.yes("stand", x.stand(2, 9));
        Check.yes("begin", x.begin());
        go(x, 3);
        Check.yes("ill, it plays", x.ill(0));
        at(x, 0, 2, 2, 3, 1, 3);
        Check.yes("ill, it goes", x.ill(1));
        at(x, 1, 1, 1, 3, 2, 3);
        Check.yes("begin", x.begin());
        Check.yes("ill, it waits", x.ill(2));
        at(x, 2, -1, -1, 3, NONE, 0);
        CarnivalRoad y = begun(12, 0, GIANT, 1);
        go(y, 21);
        Check.same("it rests", y.at(0, 2), 2);
        Check.yes("ill", y.ill(0));
        at(y, 0, 9, 9, 3, 2, 21);
    }

    /** Promise 29: "false if it is out": ILL before, or gone by. */
    private static void illOneThatIsOut() {
        CarnivalRoad x = begun(3, 0, FLOAT, 1, FLOAT, 1);
        go(x, 2);
        Check.yes("ill", x.ill(1));
        go(x, 1);
        Check.no("ill twice", x.ill(1));
        at(x, 1, 0, 0, 3, 2, 2);
        Check.yes("its tail is on the last cell", x.at(0, 1) == 2);
        go(x, 1);
        String before = Check.seen(x);
        Check.no("gone by", x.ill(0));
        Check.no("ill twice", x.ill(1));
        Check.stays(x, before, "ill");
        at(x, 0, 3, 3, 3, 1, 4);
    }

    /** Promise 29: "IndexOutOfBoundsException: no such GUEST." */
    private static void illNoSuchGuest() {
        for (int count = 0; count <= 8; count++) {
            CarnivalRoad x = road(5, 0);
            for (int g = 0; g < count; g++) {
                Check.same("guest", x.guest(FLOAT, 1, 0, 1, 0), g);
            }
            int[] none = {-1, count, 8, Integer.MIN_VALUE, Integer.MAX_VALUE};
            for (int again = 0; again < 2; again++) {
                for (int g : none) {
                    Check.noGuest("ill " + g, () -> x.ill(g));
                }
                Check.same("begin", x.begin() ? 1 : 0, count > 0 ? 1 : 0);
            }
            if (count > 0) {
                Check.yes("the last", x.ill(count - 1));
            }
        }
    }
}
