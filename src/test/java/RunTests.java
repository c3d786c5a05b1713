/** Promises 21 to 29: the run on the road. */
public final class RunTests {
    private static final int NONE = CarnivalRoad.NONE;
    private static final int FLOAT = 0;
    private static final int BAND = 1;
    private static final int HORSE = 2;
    private static final int FOOT = 3;
    private static final int GIANT = 4;

    private RunTests() {
    }

    public static void main(String[] args) {
        promise21Begin();
        promise22Run();
        promise23Minute();
        promise24AtOfAFloat();
        promise24AtOfKinds();
        promise24AtAStand();
        promise24AtBehindOthers();
        promise25Who();
        promise26Hole();
        promise27RowLong();
        promise28Ends();
        promise28EndsOfTheSlowest();
        promise29Ill();
        promise29IllOpensTheRoad();
        Check.close("RunTests");
    }

    /** A road with guests of one loud, each a kind and a length. */
    private static CarnivalRoad road(int cells, int gap, int... guests) {
        CarnivalRoad x = new CarnivalRoad();
        Check.yes("road", x.road(cells, gap));
        for (int i = 0; i < guests.length; i += 2) {
            Check.same("guest", x.guest(guests[i], guests[i + 1], 0, 1, 9), i / 2);
        }
        return x;
    }

    private static CarnivalRoad begun(int cells, int gap, int... guests) {
        CarnivalRoad x = road(cells, gap, guests);
        Check.yes("begin", x.begin());
        return x;
    }

    /** Head, state of a guest. */
    private static void at(CarnivalRoad x, int g, int head, int state) {
        String when = "guest " + g + " at minute " + x.minute();
        Check.same("head of " + when, x.at(g, 0), head);
        Check.same("tail of " + when, x.at(g, 1), head - x.of(g, 1) + 1);
        Check.same("state of " + when, x.at(g, 2), state);
    }

    private static void times(CarnivalRoad x, int g, int came, int out) {
        Check.same("came", x.at(g, 3), came);
        Check.same("was out", x.at(g, 4), out);
    }

    private static void go(CarnivalRoad x, int minutes) {
        Check.same("run " + minutes, x.run(minutes), minutes);
    }

    private static void promise21Begin() {
        CarnivalRoad x = new CarnivalRoad();
        Check.no("begin without guests", x.begin());
        Check.same("no run", x.look(4), 0);
        x.guest(FLOAT, 2, 0, 5, 0);
        x.guest(FLOAT, 2, 0, 6, 0);
        Check.yes("wire", x.wire(2, 5));
        Check.no("begin, one can't pass", x.begin());
        Check.same("no run", x.look(4), 0);
        Check.yes("wire", x.wire(2, 6));
        Check.yes("begin", x.begin());
        go(x, 5);
        Check.yes("begin again", x.begin());
        Check.same("minute", x.minute(), 0);
        at(x, 0, -1, 0);
        times(x, 0, NONE, NONE);
        Check.same("look", x.look(4), 1);
        Check.yes("ill", x.ill(0));
        Check.yes("begin again", x.begin());
        at(x, 0, -1, 0);
        // bars that are broken don't keep it from beginning
        Check.same("load", Check.load(x, "first 1;"), 1);
        Check.yes("begin", x.begin());
        go(x, 1);
        at(x, 0, 0, 1);
        Check.yes("lay", x.lay(0x01));
        Check.yes("begin", x.begin());
        go(x, 1);
        at(x, 0, -1, 0);
        at(x, 1, 0, 1);
    }

    private static void promise22Run() {
        CarnivalRoad x = road(50, 0, GIANT, 5);
        Check.noRun("run", () -> x.run(1));
        Check.noRun("run -1", () -> x.run(-1));
        Check.noRun("run 501", () -> x.run(501));
        Check.yes("begin", x.begin());
        Check.same("run -1", x.run(-1), NONE);
        Check.same("run 501", x.run(501), NONE);
        Check.same("run most", x.run(Integer.MAX_VALUE), NONE);
        Check.same("run least", x.run(Integer.MIN_VALUE), NONE);
        Check.same("minute", x.minute(), 0);
        Check.same("run 0", x.run(0), 0);
        go(x, 1);
        go(x, 9);
        // 55 cells, two minutes each; each of five rests costs one even minute; 10 have gone
        Check.same("run 500", x.run(500), 55 * 2 + 5 * 2 - 10);
        Check.same("run 500 at the end", x.run(500), 0);
        Check.same("run 501 at the end", x.run(501), NONE);
        CarnivalRoad y = road(50, 3, BAND, 5, BAND, 5);
        for (int cell = 0; cell < 50; cell++) {
            Check.yes("stand", y.stand(cell, 9));
        }
        Check.yes("begin", y.begin());
        go(y, 500);
        go(y, 400);
        Check.same("minute", y.minute(), 900);
    }

    private static void promise23Minute() {
        CarnivalRoad x = road(3, 0, FLOAT, 1);
        Check.noRun("minute", () -> x.minute());
        Check.yes("begin", x.begin());
        Check.same("minute", x.minute(), 0);
        go(x, 2);
        Check.same("minute", x.minute(), 2);
        Check.same("run", x.run(9), 2);
        Check.same("minute at the end", x.minute(), 4);
        Check.same("run", x.run(9), 0);
        Check.same("minute stays", x.minute(), 4);
    }

    private static void promise24AtOfAFloat() {
        CarnivalRoad x = road(3, 0, FLOAT, 2);
        Check.noRun("at", () -> x.at(0, 0));
        Check.noRun("at another what", () -> x.at(0, 9));
        Check.noGuest("at 1", () -> x.at(1, 0));
        Check.noGuest("at -1", () -> x.at(-1, 0));
        Check.yes("begin", x.begin());
        Check.noGuest("at 1", () -> x.at(1, 0));
        Check.noGuest("at -1 another what", () -> x.at(-1, 9));
        Check.same("at 5", x.at(0, 5), -100);
        Check.same("at -1", x.at(0, -1), -100);
        for (int minute = 0; minute < 5; minute++) {
            at(x, 0, minute - 1, minute == 0 ? 0 : 1);
            times(x, 0, minute == 0 ? NONE : 1, NONE);
            go(x, 1);
        }
        at(x, 0, 4, 3);
        times(x, 0, 1, 5);
        Check.same("over", x.run(1), 0);
        at(x, 0, 4, 3);
    }

    private static void promise24AtOfKinds() {
        int[] kinds = {FLOAT, BAND, HORSE};
        for (int kind : kinds) {
            CarnivalRoad x = begun(30, 0, kind, 1);
            for (int minute = 1; minute <= 30; minute++) {
                go(x, 1);
                at(x, 0, minute - 1, 1);
            }
        }
        CarnivalRoad foot = begun(30, 0, FOOT, 1);
        for (int minute = 1; minute <= 60; minute++) {
            go(foot, 1);
            at(foot, 0, minute / 2 - 1, minute < 2 ? 0 : 1);
        }
        times(foot, 0, 2, NONE);
        CarnivalRoad giant = begun(30, 0, GIANT, 2);
        go(giant, 19);
        at(giant, 0, 8, 1);
        go(giant, 1);
        at(giant, 0, 9, 2);
        go(giant, 2);
        at(giant, 0, 9, 2);
        go(giant, 1);
        at(giant, 0, 9, 1);
        go(giant, 1);
        at(giant, 0, 10, 1);
        go(giant, 18);
        at(giant, 0, 19, 2);
        go(giant, 4);
        at(giant, 0, 20, 1);
        go(giant, 18);
        // the tail is on the road yet: it rests there
        at(giant, 0, 29, 2);
        go(giant, 3);
        at(giant, 0, 29, 1);
        go(giant, 1);
        at(giant, 0, 30, 1);
        go(giant, 1);
        at(giant, 0, 30, 1);
        go(giant, 1);
        at(giant, 0, 31, 3);
        times(giant, 0, 2, 70);
        CarnivalRoad done = begun(9, 0, GIANT, 1);
        go(done, 20);
        at(done, 0, 9, 3);
        Check.same("no rest of one that is out", done.run(1), 0);
    }

    private static void promise24AtAStand() {
        int[] kinds = {FLOAT, BAND};
        for (int kind : kinds) {
            int plays = kind == BAND ? 6 : 3;
            CarnivalRoad x = road(4, 0, kind, 1);
            Check.yes("stand", x.stand(1, 3));
            Check.yes("begin", x.begin());
            go(x, 1);
            at(x, 0, 0, 1);
            go(x, 1);
            for (int i = 0; i < plays; i++) {
                at(x, 0, 1, 2);
                go(x, 1);
            }
            at(x, 0, 1, 1);
            go(x, 1);
            at(x, 0, 2, 1);
        }
        CarnivalRoad foot = road(4, 0, FOOT, 1);
        Check.yes("stand", foot.stand(0, 1));
        Check.yes("begin", foot.begin());
        go(foot, 2);
        at(foot, 0, 0, 2);
        go(foot, 1);
        at(foot, 0, 0, 1);
        go(foot, 1);
        at(foot, 0, 1, 1);
        CarnivalRoad even = road(4, 0, FOOT, 1);
        Check.yes("stand", even.stand(0, 2));
        Check.yes("begin", even.begin());
        go(even, 4);
        at(even, 0, 0, 1);
        go(even, 1);
        at(even, 0, 0, 1);
        go(even, 1);
        at(even, 0, 1, 1);
        CarnivalRoad giant = road(20, 0, GIANT, 1);
        Check.yes("stand", giant.stand(9, 2));
        Check.yes("begin", giant.begin());
        go(giant, 24);
        at(giant, 0, 9, 2);
        go(giant, 1);
        at(giant, 0, 9, 1);
        go(giant, 1);
        at(giant, 0, 10, 1);
    }

    private static void promise24AtBehindOthers() {
        for (int gap = 0; gap <= 3; gap++) {
            CarnivalRoad x = begun(20, gap, FLOAT, 3, FLOAT, 2, FLOAT, 1);
            go(x, 3 + gap);
            at(x, 1, -1, 0);
            go(x, 1);
            at(x, 0, 3 + gap, 1);
            at(x, 1, 0, 1);
            times(x, 1, 4 + gap, NONE);
            go(x, 2 + gap);
            at(x, 2, 0, 1);
            at(x, 1, 2 + gap, 1);
        }
        CarnivalRoad y = road(6, 1, FLOAT, 1, BAND, 1);
        Check.yes("stand", y.stand(3, 5));
        Check.yes("begin", y.begin());
        go(y, 4);
        at(y, 0, 3, 2);
        at(y, 1, 1, 1);
        go(y, 5);
        at(y, 0, 3, 1);
        at(y, 1, 1, 1);
        go(y, 1);
        at(y, 0, 4, 1);
        at(y, 1, 2, 1);
        CarnivalRoad z = begun(1, 0, FLOAT, 1, FLOAT, 1);
        go(z, 1);
        at(z, 0, 0, 1);
        at(z, 1, -1, 0);
        go(z, 1);
        at(z, 0, 1, 3);
        at(z, 1, 0, 1);
    }

    private static void promise25Who() {
        CarnivalRoad x = road(6, 1, FLOAT, 3, FLOAT, 1);
        Check.noRun("who", () -> x.who(0));
        Check.noRun("who -1", () -> x.who(-1));
        Check.yes("lay", x.lay(0x01));
        Check.yes("begin", x.begin());
        Check.same("who waits", x.who(0), NONE);
        Check.same("no such cell", x.who(-1), NONE);
        go(x, 5);
        int[] five = {0, 0, 0, NONE, 1, NONE};
        for (int cell = 0; cell < 6; cell++) {
            Check.same("who at " + cell, x.who(cell), five[cell]);
        }
        Check.same("no such cell", x.who(6), NONE);
        Check.same("no such cell", x.who(-1), NONE);
        Check.same("no such cell", x.who(Integer.MAX_VALUE), NONE);
        Check.same("no such cell", x.who(Integer.MIN_VALUE), NONE);
        go(x, 4);
        Check.same("head beyond the road", x.at(0, 0), 6);
        Check.same("no such cell", x.who(6), NONE);
        Check.same("the tail", x.who(4), 0);
        Check.same("nobody", x.who(3), NONE);
        go(x, 1);
        Check.yes("ill", x.ill(0));
        Check.same("ill", x.who(5), NONE);
    }

    private static void promise26Hole() {
        CarnivalRoad x = road(12, 1, FLOAT, 1, FOOT, 1, FLOAT, 1);
        Check.noRun("hole", () -> x.hole());
        Check.yes("begin", x.begin());
        Check.same("hole of none", x.hole(), 0);
        go(x, 2);
        Check.same("hole of one", x.hole(), 0);
        go(x, 2);
        // 3 and 0, and one that waits
        Check.same("hole of two", x.hole(), 2);
        go(x, 6);
        // 9, 3 and 1
        Check.same("hole of three", x.hole(), 5);
        Check.yes("ill", x.ill(1));
        Check.same("hole without the one between", x.hole(), 7);
        Check.yes("ill", x.ill(0));
        Check.same("hole of one", x.hole(), 0);
        CarnivalRoad y = begun(9, 0, FLOAT, 2, FLOAT, 2);
        go(y, 5);
        Check.same("no cell free", y.hole(), 0);
        CarnivalRoad z = begun(9, 3, FLOAT, 5, FLOAT, 5);
        go(z, 9);
        at(z, 0, 8, 1);
        at(z, 1, 0, 1);
        Check.same("cells free", z.hole(), 3);
        go(z, 4);
        at(z, 0, 12, 1);
        Check.same("ahead leaves the road", z.hole(), 3);
        go(z, 1);
        at(z, 0, 13, 3);
        Check.same("ahead is out", z.hole(), 0);
    }

    private static void promise27RowLong() {
        CarnivalRoad x = road(6, 1, FLOAT, 2, FLOAT, 4);
        Check.noRun("rowLong", () -> x.rowLong());
        Check.yes("begin", x.begin());
        // heads: the first comes at minute 1, the second at minute 4
        int[] due = {0, 1, 2, 2, 4, 5, 6, 6, 4, 4, 3, 2, 1, 0};
        for (int minute = 0; minute < due.length; minute++) {
            Check.same("rowLong at " + minute, x.rowLong(), due[minute]);
            Check.same("run", x.run(1), minute < due.length - 1 ? 1 : 0);
        }
        CarnivalRoad y = begun(20, 1, FLOAT, 2, FLOAT, 1, FLOAT, 1);
        go(y, 9);
        Check.same("from 9 - 5 to 8", y.rowLong(), 6);
        Check.yes("ill", y.ill(0));
        Check.same("without the first", y.rowLong(), 3);
        Check.yes("ill", y.ill(2));
        Check.same("without the last", y.rowLong(), 1);
        Check.yes("ill", y.ill(1));
        Check.same("without all", y.rowLong(), 0);
    }

    private static void promise28Ends() {
        CarnivalRoad x = road(20, 1, FLOAT, 3, FOOT, 1);
        Check.noRun("ends", () -> x.ends(0));
        Check.noRun("ends of another what", () -> x.ends(5));
        Check.yes("begin", x.begin());
        Check.same("ends", x.ends(0), 46);
        Check.same("alone", x.ends(1), 42);
        Check.same("another what", x.ends(2), NONE);
        Check.same("another what", x.ends(-1), NONE);
        Check.same("minute", x.minute(), 0);
        go(x, 7);
        at(x, 0, 6, 1);
        at(x, 1, 0, 1);
        Check.same("ends later", x.ends(0), 46);
        at(x, 0, 6, 1);
        at(x, 1, 0, 1);
        Check.same("run", x.run(500), 39);
        Check.same("ends at the end", x.ends(0), 46);
        Check.same("alone at the end", x.ends(1), 42);
        CarnivalRoad y = begun(20, 1, FLOAT, 1, FOOT, 1);
        go(y, 30);
        Check.yes("ill", y.ill(1));
        Check.same("ended by falling ill", y.ends(0), 30);
        Check.same("run", y.run(5), 0);
        Check.same("ended by falling ill", y.ends(0), 30);
        Check.same("alone, the ill one too", y.ends(1), 42);
    }

    private static void promise28EndsOfTheSlowest() {
        CarnivalRoad x = road(50, 3);
        for (int g = 0; g < 8; g++) {
            x.guest(g % 2 == 0 ? BAND : GIANT, 5, 0, 1, 0);
        }
        for (int cell = 0; cell < 50; cell++) {
            x.stand(cell, 9);
        }
        Check.yes("begin", x.begin());
        // each cell a minute and 18 of play, then four cells more
        Check.same("alone", x.ends(1), 50 * 19 + 5);
        int end = x.ends(0);
        int gone = 0;
        for (int i = 0; i < 30; i++) {
            gone += x.run(500);
        }
        Check.same("gone", gone, end);
        Check.same("minute", x.minute(), end);
        for (int g = 0; g < 8; g++) {
            Check.same("out", x.at(g, 2), 3);
        }
        Check.same("the last one out", x.at(7, 4), end);
    }

    private static void promise29Ill() {
        CarnivalRoad x = road(9, 1, FLOAT, 2, BAND, 1, FLOAT, 1);
        Check.yes("stand", x.stand(3, 5));
        Check.noRun("ill", () -> x.ill(0));
        Check.noGuest("ill 3", () -> x.ill(3));
        Check.yes("begin", x.begin());
        Check.noGuest("ill 3", () -> x.ill(3));
        Check.noGuest("ill -1", () -> x.ill(-1));
        go(x, 6);
        Check.same("it plays", x.at(0, 2), 2);
        Check.yes("ill", x.ill(0));
        at(x, 0, 3, 3);
        times(x, 0, 1, 6);
        Check.no("ill again", x.ill(0));
        go(x, 3);
        times(x, 0, 1, 6);
        at(x, 0, 3, 3);
        CarnivalRoad y = begun(9, 1, FLOAT, 2, FLOAT, 1);
        Check.yes("ill, it waits", y.ill(1));
        at(y, 1, -1, 3);
        times(y, 1, NONE, 0);
        Check.same("run", y.run(500), 11);
        Check.no("ill, it is out", y.ill(0));
        times(y, 0, 1, 11);
        CarnivalRoad z = begun(9, 1, FLOAT, 1);
        Check.yes("ill", z.ill(0));
        Check.same("over", z.run(5), 0);
        Check.same("minute", z.minute(), 0);
        Check.same("a run yet", z.look(4), 1);
    }

    private static void promise29IllOpensTheRoad() {
        CarnivalRoad x = road(9, 1, FLOAT, 1, FLOAT, 1, FLOAT, 1);
        Check.yes("stand", x.stand(4, 9));
        Check.yes("begin", x.begin());
        go(x, 8);
        at(x, 0, 4, 2);
        at(x, 1, 2, 1);
        at(x, 2, 0, 1);
        Check.yes("ill", x.ill(1));
        go(x, 3);
        at(x, 2, 2, 1);
        Check.yes("ill", x.ill(0));
        go(x, 2);
        at(x, 2, 4, 2);
    }
}
