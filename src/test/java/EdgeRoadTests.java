/**
 * The boundaries that Terms 3 names, and those of Terms 1 on how each KIND goes. Above each
 * test stands the promise and the sentence that it holds.
 */
public final class EdgeRoadTests {
    private static final int NONE = CarnivalRoad.NONE;
    private static final int FLOAT = 0;
    private static final int BAND = 1;
    private static final int HORSE = 2;
    private static final int FOOT = 3;
    private static final int GIANT = 4;

    private EdgeRoadTests() {
    }

    public static void main(String[] args) {
        roadHasBounds();
        gapHasBounds();
        wireHasBounds();
        tallerCannotPass();
        standHasBounds();
        evenMinutesAlone();
        giantRestsBehindEachTenCells();
        giantRestsWhereItsHeadIsBeyondTheRoad();
        giantThatIsOutRestsNoMore();
        bandPlaysTwiceAsLong();
        allWaitAtFirst();
        minutesBeginAtOne();
        oneBehindTheOther();
        whoPlaysDoesThatAlone();
        whoPlaysOnFootGoesAtAnEvenMinute();
        moreThanGapCells();
        gapBehindThoseOfEachLength();
        nextAheadThatIsNotOut();
        gapThatIsLongerThanTheRoad();
        tailIsBehindTheHead();
        playsFromTheNextMinuteOn();
        playsAtTheEndsOfTheRoad();
        playsWithItsHeadAlone();
        restComesBehindPlay();
        outAtTheRoadsEnd();
        runEndsAsAllAreOut();
        runEndsAsTheLastFallsIll();
        illIsOutAtOnce();
        illOneIsInNobodysWay();
        Check.close("EdgeRoadTests");
    }

    /** A road with guests that are TALL 1 and frighten nobody: each a KIND and a LENGTH. */
    private static CarnivalRoad road(int cells, int gap, int... guests) {
        CarnivalRoad x = new CarnivalRoad();
        Check.yes("road", x.road(cells, gap));
        for (int i = 0; i < guests.length; i += 2) {
            Check.same("guest", x.guest(guests[i], guests[i + 1], 0, 1, 0), i / 2);
        }
        return x;
    }

    private static CarnivalRoad begun(int cells, int gap, int... guests) {
        CarnivalRoad x = road(cells, gap, guests);
        Check.yes("begin", x.begin());
        return x;
    }

    /** The heads of all guests, by number, as they are now. */
    private static void heads(CarnivalRoad x, int... heads) {
        for (int g = 0; g < heads.length; g++) {
            Check.same("head of " + g + " at minute " + x.minute(), x.at(g, 0), heads[g]);
        }
    }

    private static void states(CarnivalRoad x, int... states) {
        for (int g = 0; g < states.length; g++) {
            Check.same("state of " + g + " at minute " + x.minute(), x.at(g, 2), states[g]);
        }
    }

    private static void go(CarnivalRoad x, int minutes) {
        Check.same("run", x.run(minutes), minutes);
    }

    private static void goTo(CarnivalRoad x, int minute) {
        go(x, minute - x.minute());
    }

    /** Promise 17, Terms 3: "THE ROAD has R cells (1 .. 50, at first 20)". */
    private static void roadHasBounds() {
        CarnivalRoad x = new CarnivalRoad();
        Check.same("at first", x.look(2), 20);
        int[] none = {0, 51, -1, Integer.MIN_VALUE, Integer.MAX_VALUE, 257};
        for (int cells : none) {
            Check.no("road of " + cells, x.road(cells, 2));
            Check.same("cells", x.look(2), 20);
            Check.same("gap", x.look(3), 1);
        }
        int[] fine = {1, 2, 49, 50};
        for (int cells : fine) {
            Check.yes("road of " + cells, x.road(cells, 2));
            Check.same("cells", x.look(2), cells);
        }
        CarnivalRoad one = begun(1, 0, FLOAT, 1);
        Check.same("ends on one cell", one.ends(0), 2);
        CarnivalRoad most = begun(50, 0, FLOAT, 1);
        Check.same("ends on 50 cells", most.ends(0), 51);
        CarnivalRoad first = Check.floats(0);
        Check.yes("begin", first.begin());
        Check.same("ends on 20 cells", first.ends(0), 21);
    }

    /** Promise 17, Terms 3: "GAP (0 .. 3, at first 1)". */
    private static void gapHasBounds() {
        CarnivalRoad x = new CarnivalRoad();
        Check.same("at first", x.look(3), 1);
        int[] none = {-1, 4, Integer.MIN_VALUE, Integer.MAX_VALUE, 256};
        for (int gap : none) {
            Check.no("gap of " + gap, x.road(7, gap));
            Check.same("cells", x.look(2), 20);
            Check.same("gap", x.look(3), 1);
        }
        for (int gap = 0; gap <= 3; gap++) {
            Check.yes("gap of " + gap, x.road(7, gap));
            Check.same("gap", x.look(3), gap);
        }
        CarnivalRoad first = Check.floats(0, 0);
        Check.yes("begin", first.begin());
        go(first, 2);
        heads(first, 1, -1);
        go(first, 1);
        heads(first, 2, 0);
    }

    /** Promise 18, Terms 3: "a WIRE (1 .. 9; none at first)". */
    private static void wireHasBounds() {
        CarnivalRoad x = Check.with(FLOAT, 1, 0, 9, 0, FLOAT, 1, 0, 1, 0, FLOAT, 1, 0, 2, 0);
        Check.same("none at first", x.passes(0), NONE);
        int[] none = {-1, 10, Integer.MIN_VALUE, Integer.MAX_VALUE, 257};
        for (int high : none) {
            Check.no("wire of " + high, x.wire(3, high));
            Check.same("passes", x.passes(0), NONE);
        }
        Check.yes("wire of 9", x.wire(3, 9));
        Check.same("TALL 9 passes", x.passes(0), NONE);
        Check.yes("wire of 8", x.wire(3, 8));
        Check.same("TALL 9 does not", x.passes(0), 3);
        Check.yes("wire of 1", x.wire(3, 1));
        Check.same("TALL 1 passes", x.passes(1), NONE);
        Check.same("TALL 2 does not", x.passes(2), 3);
        Check.yes("wire of 0", x.wire(3, 0));
        Check.same("none then", x.passes(0), NONE);
        Check.same("none then", x.passes(2), NONE);
    }

    /** Promise 20, Terms 3: "who is TALLER can't pass": as tall as the wire is not taller. */
    private static void tallerCannotPass() {
        for (int high = 1; high <= 9; high++) {
            CarnivalRoad x = Check.with(FLOAT, 1, 0, high, 0);
            Check.yes("wire", x.wire(6, high));
            Check.same("as tall as " + high, x.passes(0), NONE);
            Check.yes("begin", x.begin());
            if (high < 9) {
                CarnivalRoad y = Check.with(FLOAT, 1, 0, high + 1, 0);
                Check.yes("wire", y.wire(6, high));
                Check.same("taller than " + high, y.passes(0), 6);
                Check.no("begin", y.begin());
            }
        }
    }

    /** Promise 19, Terms 3: "a STAND (0 .. 9 minutes; 0 at first)". */
    private static void standHasBounds() {
        CarnivalRoad x = begun(5, 1, FLOAT, 1);
        Check.same("0 at first", x.ends(0), 6);
        int[] none = {-1, 10, Integer.MIN_VALUE, Integer.MAX_VALUE, 256};
        for (int minutes : none) {
            Check.no("stand of " + minutes, x.stand(2, minutes));
            Check.same("ends", x.ends(0), 6);
        }
        int[] fine = {1, 9, 0};
        for (int minutes : fine) {
            Check.yes("stand of " + minutes, x.stand(2, minutes));
            Check.yes("begin", x.begin());
            Check.same("ends", x.ends(0), 6 + minutes);
            go(x, 3);
            states(x, minutes == 0 ? 1 : 2);
        }
    }

    /** Promise 22, Terms 1: "FOOT and GIANT go at even minutes alone". */
    private static void evenMinutesAlone() {
        for (int kind = FLOAT; kind <= GIANT; kind++) {
            CarnivalRoad x = begun(20, 0, kind, 1);
            boolean slow = kind == FOOT || kind == GIANT;
            for (int minute = 1; minute <= 8; minute++) {
                go(x, 1);
                heads(x, slow ? minute / 2 - 1 : minute - 1);
                states(x, slow && minute == 1 ? 0 : 1);
            }
            Check.same("came", x.at(0, 3), slow ? 2 : 1);
        }
        // minutes that are even by the run's count, however they are asked for
        CarnivalRoad y = begun(20, 0, FOOT, 1);
        go(y, 3);
        heads(y, 0);
        go(y, 3);
        heads(y, 2);
    }

    /** Promise 22, Terms 1: "a GIANT rests for 3 minutes behind each 10 cells that it went". */
    private static void giantRestsBehindEachTenCells() {
        CarnivalRoad x = begun(50, 0, GIANT, 5);
        int[][] due = {{18, 8, 1}, {19, 8, 1}, {20, 9, 2}, {21, 9, 2}, {22, 9, 2}, {23, 9, 1}, {24, 10, 1},
            {41, 18, 1}, {42, 19, 2}, {44, 19, 2}, {45, 19, 1}, {46, 20, 1}, {64, 29, 2}, {66, 29, 2},
            {67, 29, 1}, {68, 30, 1}, {86, 39, 2}, {90, 40, 1}, {108, 49, 2}, {111, 49, 1}, {112, 50, 1}};
        for (int[] row : due) {
            goTo(x, row[0]);
            heads(x, row[1]);
            states(x, row[2]);
        }
        Check.same("ends", x.ends(0), 120);
        // no other kind rests
        for (int kind = FLOAT; kind <= FOOT; kind++) {
            CarnivalRoad y = begun(20, 0, kind, 1);
            Check.same("ends", y.ends(0), kind == FOOT ? 42 : 21);
        }
    }

    /** Promise 24, Terms 1: "behind each 10 cells that it went": on the ROAD by its tail yet, it rests too. */
    private static void giantRestsWhereItsHeadIsBeyondTheRoad() {
        CarnivalRoad x = begun(9, 0, GIANT, 5);
        goTo(x, 20);
        heads(x, 9);
        states(x, 2);
        goTo(x, 23);
        states(x, 1);
        goTo(x, 24);
        heads(x, 10);
        Check.same("ends", x.ends(0), 30);
    }

    /** Promise 28, Terms 3: "One whose tail is at R or farther on is out.": it does not rest first. */
    private static void giantThatIsOutRestsNoMore() {
        CarnivalRoad x = begun(9, 0, GIANT, 1);
        Check.same("ends", x.ends(0), 20);
        Check.same("alone", x.ends(1), 20);
        go(x, 20);
        states(x, 3);
        Check.same("run", x.run(3), 0);
        CarnivalRoad y = begun(10, 0, GIANT, 1);
        Check.same("ends", y.ends(0), 24);
    }

    /** Promise 22, Terms 1: "A BAND plays twice as long at a STAND." */
    private static void bandPlaysTwiceAsLong() {
        for (int kind = FLOAT; kind <= GIANT; kind++) {
            for (int minutes = 0; minutes <= 9; minutes++) {
                CarnivalRoad x = road(3, 0, kind, 1);
                Check.yes("stand", x.stand(1, minutes));
                Check.yes("begin", x.begin());
                int plays = kind == BAND ? 2 * minutes : minutes;
                boolean slow = kind == FOOT || kind == GIANT;
                go(x, slow ? 4 : 2);
                heads(x, 1);
                states(x, plays > 0 ? 2 : 1);
                if (plays > 0) {
                    go(x, plays - 1);
                    states(x, 2);
                    go(x, 1);
                    states(x, 1);
                    heads(x, 1);
                }
                // who goes at even minutes waits for one
                go(x, slow && plays % 2 == 0 ? 2 : 1);
                heads(x, 2);
            }
        }
    }

    /** Promise 21, Terms 3: "A run: all GUESTS wait (head at -1) in THE ROW." */
    private static void allWaitAtFirst() {
        CarnivalRoad x = begun(5, 0, FLOAT, 1, BAND, 5, GIANT, 2, FOOT, 3, HORSE, 4);
        for (int again = 0; again < 2; again++) {
            heads(x, -1, -1, -1, -1, -1);
            states(x, 0, 0, 0, 0, 0);
            for (int g = 0; g < 5; g++) {
                Check.same("tail", x.at(g, 1), -x.of(g, 1));
                Check.same("came", x.at(g, 3), NONE);
                Check.same("was out", x.at(g, 4), NONE);
            }
            go(x, 9);
            Check.yes("ill", x.ill(3));
            Check.yes("begin again", x.begin());
        }
    }

    /** Promise 23, Terms 3: "Each minute (1, 2, ..)". */
    private static void minutesBeginAtOne() {
        CarnivalRoad x = begun(5, 0, FLOAT, 1);
        Check.same("minute", x.minute(), 0);
        go(x, 1);
        Check.same("minute", x.minute(), 1);
        Check.same("came", x.at(0, 3), 1);
    }

    /** Promise 22, Terms 3: "one behind the other from the first of THE ROW on". */
    private static void oneBehindTheOther() {
        // who is behind sees where the one ahead has come in the same minute
        CarnivalRoad x = begun(9, 0, FLOAT, 1, FLOAT, 1, FLOAT, 1);
        go(x, 1);
        heads(x, 0, -1, -1);
        go(x, 1);
        heads(x, 1, 0, -1);
        go(x, 1);
        heads(x, 2, 1, 0);
        // of THE ROW, not of the numbers
        CarnivalRoad y = road(9, 0, FLOAT, 1, FLOAT, 1, FLOAT, 1);
        Check.lay(y, 2, 0, 1);
        Check.yes("begin", y.begin());
        go(y, 2);
        heads(y, 0, -1, 1);
        go(y, 1);
        heads(y, 1, 0, 2);
    }

    /** Promise 22, Terms 3: "one that plays or rests does so a minute (that is all)". */
    private static void whoPlaysDoesThatAlone() {
        CarnivalRoad x = road(5, 0, FLOAT, 1);
        Check.yes("stand", x.stand(0, 1));
        Check.yes("begin", x.begin());
        go(x, 1);
        states(x, 2);
        go(x, 1);
        heads(x, 0);
        states(x, 1);
        go(x, 1);
        heads(x, 1);
    }

    /** Promise 22, Terms 3: "else it goes one cell on, if its KIND goes at that minute". */
    private static void whoPlaysOnFootGoesAtAnEvenMinute() {
        for (int minutes = 1; minutes <= 4; minutes++) {
            CarnivalRoad x = road(5, 0, FOOT, 1);
            Check.yes("stand", x.stand(0, minutes));
            Check.yes("begin", x.begin());
            int goes = minutes % 2 == 0 ? 4 + minutes : 3 + minutes;
            go(x, goes - 1);
            heads(x, 0);
            go(x, 1);
            heads(x, 1);
        }
    }

    /** Promise 22, Terms 3: "has its tail more than GAP cells behind the cell to which its head comes, farther on". */
    private static void moreThanGapCells() {
        for (int gap = 0; gap <= 3; gap++) {
            CarnivalRoad x = begun(20, gap, FLOAT, 1, FLOAT, 1);
            go(x, 1 + gap);
            // the tail ahead is GAP cells on from cell 0: no more than that
            heads(x, gap, -1);
            go(x, 1);
            heads(x, gap + 1, 0);
            Check.same("hole", x.hole(), gap);
            // one that stands still ahead stops the other at GAP cells
            CarnivalRoad y = road(20, gap, FLOAT, 1, FLOAT, 1);
            Check.yes("stand", y.stand(10, 9));
            Check.yes("begin", y.begin());
            go(y, 20);
            heads(y, 10, 10 - gap - 1);
            Check.same("hole", y.hole(), gap);
            go(y, 1);
            heads(y, 11, 10 - gap);
        }
    }

    /** Promise 22, Terms 3: "has its tail more than GAP cells ..": its tail, not its head. */
    private static void gapBehindThoseOfEachLength() {
        for (int length = 1; length <= 5; length++) {
            CarnivalRoad x = begun(20, 2, FLOAT, length, FLOAT, 5);
            go(x, length + 2);
            heads(x, length + 1, -1);
            go(x, 1);
            heads(x, length + 2, 0);
        }
    }

    /** Promise 22, Terms 3: "the next GUEST ahead of it (that is not out)". */
    private static void nextAheadThatIsNotOut() {
        // the first is out in the very minute in which the next one looks at it
        CarnivalRoad x = begun(1, 3, FLOAT, 1, FLOAT, 1);
        go(x, 1);
        heads(x, 0, -1);
        go(x, 1);
        heads(x, 1, 0);
        states(x, 3, 1);
        // with the next one ill, the one ahead of that is the next
        CarnivalRoad y = road(20, 1, FLOAT, 1, FLOAT, 1, FLOAT, 1);
        Check.yes("stand", y.stand(9, 9));
        Check.yes("begin", y.begin());
        go(y, 14);
        heads(y, 9, 7, 5);
        Check.yes("ill", y.ill(1));
        go(y, 1);
        heads(y, 9, 7, 6);
        go(y, 2);
        heads(y, 9, 7, 7);
        // one that waits yet keeps those behind it from the road
        CarnivalRoad z = begun(20, 0, FOOT, 1, FLOAT, 1);
        go(z, 1);
        heads(z, -1, -1);
        go(z, 2);
        heads(z, 0, -1);
        go(z, 1);
        heads(z, 1, 0);
    }

    /** Promise 22, Terms 3: "more than GAP cells": on a road too short for that, each goes alone. */
    private static void gapThatIsLongerThanTheRoad() {
        CarnivalRoad x = begun(3, 3, FLOAT, 1, FLOAT, 1);
        go(x, 3);
        heads(x, 2, -1);
        go(x, 1);
        heads(x, 3, 0);
        states(x, 3, 1);
        Check.same("ends", x.ends(0), 7);
    }

    /** Promise 24, Terms 3: "Its tail is LENGTH - 1 cells behind its head." */
    private static void tailIsBehindTheHead() {
        for (int length = 1; length <= 5; length++) {
            CarnivalRoad x = begun(3, 0, FLOAT, length);
            for (int minute = 0; minute <= 3 + length; minute++) {
                Check.same("head", x.at(0, 0), minute - 1);
                Check.same("tail", x.at(0, 1), minute - length);
                Check.same("run", x.run(1), minute < 3 + length ? 1 : 0);
            }
        }
    }

    /** Promise 24, Terms 3: "it plays for so many minutes from the next one on". */
    private static void playsFromTheNextMinuteOn() {
        CarnivalRoad x = road(5, 0, FLOAT, 1);
        Check.yes("stand", x.stand(2, 3));
        Check.yes("begin", x.begin());
        go(x, 2);
        states(x, 1);
        go(x, 1);
        heads(x, 2);
        states(x, 2);
        go(x, 2);
        states(x, 2);
        go(x, 1);
        heads(x, 2);
        states(x, 1);
        go(x, 1);
        heads(x, 3);
        states(x, 1);
        Check.same("ends", x.ends(0), 9);
    }

    /** Promise 24, Terms 3: "As its head comes to a cell of the ROAD with a STAND": its first and last cells too. */
    private static void playsAtTheEndsOfTheRoad() {
        CarnivalRoad x = road(3, 0, FLOAT, 2);
        Check.yes("stand", x.stand(0, 2));
        Check.yes("stand", x.stand(2, 4));
        Check.yes("begin", x.begin());
        Check.same("ends", x.ends(0), 11);
        go(x, 1);
        states(x, 2);
        goTo(x, 5);
        heads(x, 2);
        states(x, 2);
        goTo(x, 10);
        heads(x, 3);
        states(x, 1);
        goTo(x, 11);
        states(x, 3);
        // one that waits is at no cell
        CarnivalRoad y = road(3, 0, FLOAT, 1, FLOAT, 1);
        Check.yes("stand", y.stand(0, 9));
        Check.yes("begin", y.begin());
        states(y, 0, 0);
        go(y, 1);
        states(y, 2, 0);
    }

    /** Promise 24, Terms 3: "As its head comes to a cell": its other cells don't play, nor does the cell behind. */
    private static void playsWithItsHeadAlone() {
        CarnivalRoad x = road(6, 0, FLOAT, 5);
        Check.yes("stand", x.stand(1, 2));
        Check.yes("begin", x.begin());
        go(x, 2);
        states(x, 2);
        go(x, 2);
        for (int head = 2; head <= 9; head++) {
            go(x, 1);
            heads(x, head);
            states(x, 1);
        }
        go(x, 1);
        states(x, 3);
    }

    /** Promise 24, Terms 3: "a rest comes behind that". */
    private static void restComesBehindPlay() {
        for (int minutes = 0; minutes <= 9; minutes++) {
            CarnivalRoad x = road(12, 0, GIANT, 1);
            Check.yes("stand", x.stand(9, minutes));
            Check.yes("begin", x.begin());
            goTo(x, 20);
            heads(x, 9);
            goTo(x, 22 + minutes);
            states(x, 2);
            goTo(x, 23 + minutes);
            states(x, 1);
            heads(x, 9);
            goTo(x, 24 + minutes);
            heads(x, minutes % 2 == 0 ? 10 : 9);
            goTo(x, 25 + minutes);
            heads(x, 10);
        }
    }

    /** Promise 24, Terms 3: "One whose tail is at R or farther on is out." */
    private static void outAtTheRoadsEnd() {
        for (int length = 1; length <= 5; length++) {
            CarnivalRoad x = begun(4, 0, FLOAT, length);
            go(x, 3 + length);
            Check.same("tail", x.at(0, 1), 3);
            states(x, 1);
            Check.same("who", x.who(3), 0);
            Check.same("was out", x.at(0, 4), NONE);
            go(x, 1);
            states(x, 3);
            Check.same("who", x.who(3), NONE);
            Check.same("was out", x.at(0, 4), 4 + length);
        }
    }

    /** Promise 22, Terms 3: "The run ends as all are." */
    private static void runEndsAsAllAreOut() {
        CarnivalRoad x = begun(4, 0, FLOAT, 1, FLOAT, 2);
        // the second comes at minute 2, and its tail is at 4 when its head is at 5
        Check.same("run", x.run(500), 7);
        states(x, 3, 3);
        Check.same("minute", x.minute(), 7);
        Check.same("run", x.run(1), 0);
        Check.same("minute", x.minute(), 7);
        Check.same("ends", x.ends(0), 7);
        Check.same("was out", x.at(0, 4), 5);
        Check.same("was out", x.at(1, 4), 7);
    }

    /** Promise 22, 29, Terms 3: "The run ends as all are.": ill ones are out as well. */
    private static void runEndsAsTheLastFallsIll() {
        CarnivalRoad x = begun(4, 0, FLOAT, 1, FLOAT, 2);
        go(x, 5);
        states(x, 3, 1);
        Check.yes("ill", x.ill(1));
        Check.same("run", x.run(500), 0);
        Check.same("minute", x.minute(), 5);
        Check.same("ends", x.ends(0), 5);
        CarnivalRoad y = begun(4, 0, FLOAT, 1, FLOAT, 2);
        Check.yes("ill", y.ill(1));
        Check.yes("ill", y.ill(0));
        Check.same("run", y.run(500), 0);
        Check.same("ends", y.ends(0), 0);
    }

    /** Promise 29, Terms 3: "One that falls ILL is out at once." */
    private static void illIsOutAtOnce() {
        CarnivalRoad x = road(9, 0, FLOAT, 1, FLOAT, 2, FLOAT, 1);
        Check.yes("stand", x.stand(4, 9));
        Check.yes("begin", x.begin());
        go(x, 5);
        heads(x, 4, 3, 1);
        Check.same("who", x.who(2), 1);
        Check.same("rowLong", x.rowLong(), 4);
        Check.yes("ill", x.ill(1));
        states(x, 2, 3, 1);
        Check.same("minute", x.minute(), 5);
        Check.same("was out", x.at(1, 4), 5);
        Check.same("who", x.who(2), NONE);
        Check.same("who", x.who(3), NONE);
        Check.same("hole", x.hole(), 2);
        Check.yes("ill, it plays", x.ill(0));
        states(x, 3, 3, 1);
        Check.same("who", x.who(4), NONE);
        Check.same("hole", x.hole(), 0);
        Check.same("rowLong", x.rowLong(), 1);
        go(x, 1);
        heads(x, 4, 3, 2);
        Check.same("was out", x.at(0, 4), 5);
        Check.same("was out", x.at(1, 4), 5);
    }

    /** Promise 29, Terms 3: "One that falls ILL is out at once.": waiting ones too, and those behind go. */
    private static void illOneIsInNobodysWay() {
        CarnivalRoad x = begun(9, 1, FOOT, 5, FLOAT, 1);
        Check.yes("ill, it waits", x.ill(0));
        states(x, 3, 0);
        Check.same("came", x.at(0, 3), NONE);
        Check.same("was out", x.at(0, 4), 0);
        go(x, 1);
        heads(x, -1, 0);
        go(x, 9);
        states(x, 3, 3);
        Check.same("came", x.at(0, 3), NONE);
        Check.same("run", x.run(5), 0);
    }
}
