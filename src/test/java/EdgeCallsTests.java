/**
 * The boundaries that promises 1 to 20 name: what comes, what is refused, what a refused
 * call leaves alone. Above each test stands the promise and the sentence that it holds.
 */
public final class EdgeCallsTests {
    private static final int NONE = CarnivalRoad.NONE;
    private static final int[] OTHER_WHATS = {-1, Integer.MIN_VALUE, Integer.MAX_VALUE, 99};
    private static final int BLANKS = 0x20202020;

    private EdgeCallsTests() {
    }

    public static void main(String[] args) {
        noneIsMinusOne();
        newObjectHasNothing();
        objectsAreApart();
        answersUpToTheLastCall();
        guestEndsTheRun();
        guestWithoutARun();
        guestThatCannotBe();
        guestOfEight();
        ofEachWhat();
        ofAnotherWhat();
        ofNoSuchGuest();
        feedTheHighestFirst();
        feedHowManyItHas();
        feedBeyondFourHundred();
        endTheFirstAlone();
        endOfNotSoMany();
        endBelowNone();
        loadEmptiesTheTape();
        loadInPlaceOfTheBars();
        loadHowMany();
        loadOfAFault();
        loadLeavesTheRun();
        faultOfTheLatestLoad();
        faultWithoutOne();
        faultOfAnotherWhat();
        lookAtEach();
        lookAtAnotherWhat();
        layTheFirstLowest();
        layEndsTheRun();
        layNotEachOnce();
        layWithoutGuests();
        placeOfNoneSuch();
        ordersOfNoneAndAll();
        pickTheKth();
        pickEndsTheRun();
        pickNoneSuch();
        rankOfFirstAndLast();
        rankOfNone();
        bestIsTheLeast();
        bestEndsTheRun();
        bestOfNone();
        noiseIsOfTheRowAlone();
        whyOfARowThatKeepsAll();
        whyOfAnotherWhat();
        roadTakesWiresAndStandsAway();
        roadEndsTheRun();
        roadThatCannotBe();
        wireAtACell();
        wireOfNone();
        wireEndsTheRun();
        wireThatCannotBe();
        standAtACell();
        standEndsTheRun();
        standThatCannotBe();
        passesTheFirstCell();
        passesThemAll();
        passesNoSuchGuest();
        Check.close("EdgeCallsTests");
    }

    /** Three guests in a row of their own, a bar, a fault, a road of five cells and a run of three minutes. */
    private static CarnivalRoad busy() {
        CarnivalRoad x = Check.with(0, 2, 3, 5, 0, 1, 1, 9, 2, 0, 3, 2, 2, 4, 0);
        Check.same("load", Check.load(x, "first kind 1;"), 1);
        Check.same("load", Check.load(x, "first 3;"), NONE);
        Check.yes("road", x.road(5, 0));
        Check.yes("wire", x.wire(4, 5));
        Check.yes("stand", x.stand(1, 2));
        Check.lay(x, 2, 0, 1);
        Check.yes("begin", x.begin());
        Check.same("run", x.run(3), 3);
        return x;
    }

    private static void nothingDone(CarnivalRoad x, String before, String call) {
        Check.stays(x, before, call);
        Check.same("the run goes on behind " + call, x.run(1), 1);
        Check.same("minute", x.minute(), 4);
    }

    private static void again(CarnivalRoad x) {
        Check.yes("begin", x.begin());
        Check.same("look", x.look(4), 1);
    }

    /** The constants: "NONE = -1: There is none." */
    private static void noneIsMinusOne() {
        Check.same("NONE", CarnivalRoad.NONE, -1);
    }

    /** Promise 1: "No GUESTS, no BARS." (and Terms 3: "at first 20", "at first 1", "none at first", "0 at first"). */
    private static void newObjectHasNothing() {
        CarnivalRoad x = new CarnivalRoad();
        int[] looks = {0, 0, 20, 1, 0};
        for (int what = 0; what < looks.length; what++) {
            Check.same("look " + what, x.look(what), looks[what]);
        }
        Check.tape(x, 0);
        Check.same("fault", x.fault(0), 0);
        Check.same("its place", x.fault(1), NONE);
        Check.noGuest("of", () -> x.of(0, 0));
        Check.row(x);
        Check.same("guest", x.guest(0, 1, 0, 9, 0), 0);
        Check.same("passes", x.passes(0), NONE);
        Check.same("orders", x.orders(), 1);
        Check.yes("begin", x.begin());
        Check.same("ends", x.ends(0), 21);
    }

    /** Promise 1: "No GUESTS, no BARS.": whatever another object has. */
    private static void objectsAreApart() {
        CarnivalRoad x = busy();
        Check.same("feed", x.feed(BLANKS, BLANKS, BLANKS, BLANKS, BLANKS), 20);
        CarnivalRoad y = new CarnivalRoad();
        Check.same("guests", y.look(0), 0);
        Check.same("bars", y.look(1), 0);
        Check.same("cells", y.look(2), 20);
        Check.same("gap", y.look(3), 1);
        Check.over(y, "making it");
        Check.tape(y, 0);
        Check.same("fault", y.fault(0), 0);
        Check.tape(x, 20);
        Check.same("guests", x.look(0), 3);
        Check.same("minute", x.minute(), 3);
    }

    /** What it is: "An object is used for at most 512 calls after it has been made". */
    private static void answersUpToTheLastCall() {
        CarnivalRoad x = Check.floats(1, 2, 3);
        for (int i = 3; i < 510; i += 3) {
            Check.same("feed", x.feed(BLANKS, BLANKS, BLANKS, BLANKS, i % 2 == 0 ? BLANKS : -1), 20);
            Check.same("load", x.load(), i % 2 == 0 ? 0 : NONE);
            Check.same("orders", x.orders(), 6);
        }
        Check.yes("the 511th", x.begin());
        Check.same("the 512th", x.run(500), 25);
    }

    /** Promise 2: "A GUEST comes: its number; the run is over". */
    private static void guestEndsTheRun() {
        CarnivalRoad x = busy();
        Check.same("guest", x.guest(0, 1, 0, 1, 0), 3);
        Check.over(x, "guest");
        Check.row(x, 0, 1, 2, 3);
        Check.same("bars", x.look(1), 1);
        Check.same("cells", x.look(2), 5);
        again(x);
    }

    /** Promise 2: "if there was one". */
    private static void guestWithoutARun() {
        CarnivalRoad x = new CarnivalRoad();
        Check.same("guest", x.guest(0, 1, 0, 1, 0), 0);
        Check.over(x, "guest");
    }

    /** Promise 2: "NONE, and nothing is done, if one number can't be". */
    private static void guestThatCannotBe() {
        int[][] none = {{-1, 1, 0, 1, 0}, {5, 1, 0, 1, 0}, {0, 0, 0, 1, 0}, {0, 6, 0, 1, 0}, {0, 1, -1, 1, 0},
            {0, 1, 10, 1, 0}, {0, 1, 0, 0, 0}, {0, 1, 0, 10, 0}, {0, 1, 0, 1, -1}, {0, 1, 0, 1, 10},
            {Integer.MIN_VALUE, 1, 0, 1, 0}, {0, Integer.MAX_VALUE, 0, 1, 0}, {-1, 0, -1, 0, -1}};
        CarnivalRoad x = busy();
        String before = Check.seen(x);
        for (int[] g : none) {
            Check.same("guest that can't be", x.guest(g[0], g[1], g[2], g[3], g[4]), NONE);
        }
        nothingDone(x, before, "guest");
        Check.noGuest("none came", () -> x.of(3, 0));
    }

    /** Promise 2: "or there are 8". */
    private static void guestOfEight() {
        CarnivalRoad x = Check.floats(1, 2, 3, 4, 5, 6, 7, 8);
        Check.lay(x, 7, 0, 6, 1, 5, 2, 4, 3);
        Check.yes("begin", x.begin());
        Check.same("run", x.run(3), 3);
        String before = Check.seen(x);
        Check.same("the ninth", x.guest(0, 1, 0, 1, 0), NONE);
        nothingDone(x, before, "the ninth guest");
        Check.noGuest("none came", () -> x.of(8, 0));
    }

    /** Promise 3: "Of GUEST g what 0 KIND, 1 LENGTH, 2 LOUD, 3 TALL, 4 SHY." */
    private static void ofEachWhat() {
        int[] traits = {0, 1, 9, 1, 9, 1, 2, 8, 9, 0, 2, 3, 7, 8, 1, 3, 4, 6, 7, 2, 4, 5, 5, 6, 3,
            0, 5, 4, 5, 4, 1, 4, 3, 4, 5, 2, 3, 2, 3, 6};
        CarnivalRoad x = Check.with(traits);
        for (int i = 0; i < traits.length; i++) {
            Check.same("of " + i / 5 + " " + i % 5, x.of(i / 5, i % 5), traits[i]);
        }
    }

    /** Promise 3: "NONE for another what." */
    private static void ofAnotherWhat() {
        CarnivalRoad x = Check.floats(1);
        Check.same("of 5", x.of(0, 5), NONE);
        for (int what : OTHER_WHATS) {
            Check.same("of " + what, x.of(0, what), NONE);
        }
    }

    /** Promise 3: "IndexOutOfBoundsException: no such GUEST." */
    private static void ofNoSuchGuest() {
        for (int count = 0; count <= 8; count++) {
            CarnivalRoad x = Check.floats(new int[count]);
            int[] none = {-1, count, 8, Integer.MIN_VALUE, Integer.MAX_VALUE};
            for (int g : none) {
                Check.noGuest("of " + g, () -> x.of(g, 0));
                Check.noGuest("of " + g + " another what", () -> x.of(g, 5));
            }
            if (count > 0) {
                Check.same("of the last", x.of(count - 1, 1), 1);
            }
        }
    }

    /** Promise 4: "Twenty bytes come behind the TAPE, of each number the highest first". */
    private static void feedTheHighestFirst() {
        for (int place = 0; place < 20; place++) {
            // an x among blanks is a fault at its place
            int[] numbers = {BLANKS, BLANKS, BLANKS, BLANKS, BLANKS};
            numbers[place / 4] ^= ('x' ^ ' ') << (24 - place % 4 * 8);
            CarnivalRoad x = new CarnivalRoad();
            for (int fed = 20; fed <= 60; fed += 20) {
                Check.same("feed", x.feed(BLANKS, BLANKS, BLANKS, BLANKS, BLANKS), fed);
            }
            Check.same("feed", x.feed(numbers[0], numbers[1], numbers[2], numbers[3], numbers[4]), 80);
            Check.same("load", x.load(), NONE);
            Check.same("its place", x.fault(1), 60 + place);
        }
        // a byte of 128 or more is highest in a number below 0
        CarnivalRoad y = new CarnivalRoad();
        Check.same("feed", y.feed(BLANKS, 0x202020ff, 0xff202020, -1, Integer.MIN_VALUE), 20);
        Check.same("load", y.load(), NONE);
        Check.same("its place", y.fault(1), 7);
    }

    /** Promise 4: "how many it has". */
    private static void feedHowManyItHas() {
        CarnivalRoad x = new CarnivalRoad();
        for (int fed = 20; fed <= 400; fed += 20) {
            Check.same("feed", x.feed(0, 0, 0, 0, 0), fed);
        }
        Check.tape(x, 400);
        Check.yes("end", x.end(7));
        Check.same("feed", x.feed(0, 0, 0, 0, 0), 27);
    }

    /** Promise 4: "NONE, and nothing comes, if there would be more than 400." */
    private static void feedBeyondFourHundred() {
        int[] lengths = {381, 390, 399, 400};
        for (int length : lengths) {
            CarnivalRoad x = blanks(400);
            Check.yes("end", x.end(length));
            Check.same("feed to " + (length + 20), x.feed(-1, -1, -1, -1, -1), NONE);
            Check.tape(x, length);
            Check.same("nothing came", x.load(), 0);
        }
        CarnivalRoad x = blanks(400);
        Check.yes("end", x.end(380));
        Check.same("feed to 400", x.feed(BLANKS, BLANKS, BLANKS, BLANKS, 0x20202078), 400);
        Check.same("load", x.load(), NONE);
        Check.same("its place", x.fault(1), 399);
    }

    private static CarnivalRoad blanks(int bytes) {
        CarnivalRoad x = new CarnivalRoad();
        for (int fed = 20; fed <= bytes; fed += 20) {
            Check.same("feed", x.feed(BLANKS, BLANKS, BLANKS, BLANKS, BLANKS), fed);
        }
        return x;
    }

    /** Promise 5: "The TAPE has its first n bytes alone: true". */
    private static void endTheFirstAlone() {
        String text = "first 0; last 1; loud 9;";
        int[][] due = {{24, 3}, {16, 2}, {8, 1}, {0, 0}};
        for (int[] row : due) {
            CarnivalRoad x = Check.floats(1, 2);
            Check.put(x, text);
            Check.yes("end " + row[0], x.end(row[0]));
            Check.tape(x, row[0]);
            Check.same("load", x.load(), row[1]);
        }
        // cut within a word or a number, what was cut off is no part of it
        int[][] cuts = {{4, 1, 0}, {7, 1, 7}, {20, 1, 17}, {23, 1, 23}};
        for (int[] cut : cuts) {
            CarnivalRoad x = Check.floats(1, 2);
            Check.put(x, "first 00;last 01;loud 18;");
            Check.yes("end", x.end(cut[0]));
            Check.same("load", x.load(), NONE);
            Check.same("fault", x.fault(0), cut[1]);
            Check.same("its place", x.fault(1), cut[2]);
        }
        // what was cut off does not come again, and what is fed stands in its place
        CarnivalRoad x = Check.floats(1, 2);
        Check.put(x, text);
        Check.yes("end", x.end(8));
        Check.no("end", x.end(16));
        Check.same("feed", x.feed(BLANKS, BLANKS, BLANKS, BLANKS, BLANKS), 28);
        Check.same("load", x.load(), 1);
    }

    /** Promise 5: "false, changing nothing, if it has not so many". */
    private static void endOfNotSoMany() {
        CarnivalRoad x = Check.floats(1, 2);
        Check.put(x, "first 0; last 1;");
        int[] none = {17, 20, 400, 401, Integer.MAX_VALUE};
        for (int n : none) {
            Check.no("end " + n, x.end(n));
        }
        Check.tape(x, 16);
        Check.same("load", x.load(), 2);
        Check.no("end of the empty tape", x.end(1));
        Check.yes("all of the empty tape", x.end(0));
        CarnivalRoad full = blanks(400);
        Check.no("end 401", full.end(401));
        Check.yes("end 400", full.end(400));
    }

    /** Promise 5: "or n is below 0". */
    private static void endBelowNone() {
        CarnivalRoad x = Check.floats(1, 2);
        Check.put(x, "first 0; last 1;");
        Check.no("end -1", x.end(-1));
        Check.no("end least", x.end(Integer.MIN_VALUE));
        Check.tape(x, 16);
        Check.same("load", x.load(), 2);
        Check.no("end -1 of the empty tape", x.end(-1));
        Check.yes("end 0 is not below", x.end(0));
    }

    /** Promise 6: "The TAPE, empty then": behind a good text, and behind a fault. */
    private static void loadEmptiesTheTape() {
        String[] texts = {"", "first 0;", "x", "first 0"};
        for (String text : texts) {
            CarnivalRoad x = Check.floats(1);
            Check.put(x, text);
            x.load();
            Check.tape(x, 0);
            Check.same("load of the empty tape", x.load(), 0);
            Check.same("feed", x.feed(BLANKS, BLANKS, BLANKS, BLANKS, BLANKS), 20);
        }
    }

    /** Promise 6: "is read in place of the BARS". */
    private static void loadInPlaceOfTheBars() {
        CarnivalRoad x = Check.floats(1, 2, 3);
        Check.fine(x, 2, "first 0;last 1;");
        Check.same("orders", x.orders(), 1);
        Check.fine(x, 1, "last 0;");
        Check.same("orders", x.orders(), 2);
        Check.fine(x, 3, "first 0;last 1;loud 9;");
        Check.same("orders", x.orders(), 1);
        Check.fine(x, 0, "");
        Check.same("orders", x.orders(), 6);
        // nor is one of the texts before the last one kept, with a bar that nobody keeps
        CarnivalRoad y = new CarnivalRoad();
        String[] texts = {"loud 0;first kind 0;", "loud 0;last kind 0;", "loud 0;", "loud 1;"};
        for (int i = 0; i < texts.length; i++) {
            Check.fine(y, i < 2 ? 2 : 1, texts[i]);
            Check.same("orders", y.orders(), i < 2 ? 0 : 1);
            Check.why(y, i < 2 ? 1 : NONE, i < 2 ? 0 : NONE, i < 2 ? 0 : NONE);
        }
    }

    /** Promise 6: "how many". */
    private static void loadHowMany() {
        StringBuilder text = new StringBuilder();
        for (int bars = 0; bars <= 10; bars++) {
            Check.fine(Check.floats(1), bars, text.toString());
            text.append("first 0;");
        }
        Check.fault(Check.floats(1), 3, 80, text.toString());
    }

    /** Promise 6: "NONE: a FAULT (the BARS stay)." */
    private static void loadOfAFault() {
        String[] texts = {"x", "first 1; x", "first 9;", "last 1;last 1;last 1;last 1;last 1;last 1;last 1;"
            + "last 1;last 1;last 1;last 1;", "loud 0"};
        for (String text : texts) {
            CarnivalRoad x = Check.floats(1, 2, 3);
            Check.fine(x, 2, "first 0;last 2;");
            Check.same("load '" + text + "'", Check.load(x, text), NONE);
            Check.same("bars", x.look(1), 2);
            Check.same("orders", x.orders(), 1);
            Check.same("rank", x.rank(), 0);
            Check.lay(x, 0, 2, 1);
            Check.why(x, 1, 2, 2);
            // a fault behind a fault, and a good text behind both
            Check.same("load '" + text + "'", Check.load(x, text), NONE);
            Check.why(x, 1, 2, 2);
            Check.fine(x, 1, "first 1;");
            Check.why(x, 0, 0, 0);
        }
    }

    /** Promise 6: "is read in place of the BARS": THE ROW, THE ROAD and a run are not told of, and stay. */
    private static void loadLeavesTheRun() {
        CarnivalRoad x = busy();
        Check.same("load", Check.load(x, "last kind 1;"), 1);
        Check.same("load", Check.load(x, "x"), NONE);
        Check.same("look", x.look(4), 1);
        Check.same("minute", x.minute(), 3);
        Check.row(x, 2, 0, 1);
        Check.same("cells", x.look(2), 5);
    }

    /** Promise 7: "Of the latest load(): what 0 the FAULT .., 1 its place". */
    private static void faultOfTheLatestLoad() {
        CarnivalRoad x = Check.floats(1);
        Check.fault(x, 1, 6, "first x;");
        Check.fault(x, 2, 7, "first  9;");
        Check.fault(x, 3, 80, "first 0;first 0;first 0;first 0;first 0;first 0;first 0;first 0;first 0;first 0;last");
        // what is fed, cut or asked behind it changes nothing
        Check.same("feed", x.feed(BLANKS, BLANKS, BLANKS, BLANKS, BLANKS), 20);
        Check.yes("end", x.end(3));
        Check.same("guest", x.guest(0, 1, 0, 1, 0), 1);
        Check.same("fault", x.fault(0), 3);
        Check.same("its place", x.fault(1), 80);
        Check.fault(x, 1, 0, "y");
    }

    /** Promise 7: "(0 without one), 1 its place (NONE)". */
    private static void faultWithoutOne() {
        CarnivalRoad x = Check.floats(1);
        Check.same("fault before a load", x.fault(0), 0);
        Check.same("its place", x.fault(1), NONE);
        Check.fault(x, 2, 6, "first 1;");
        Check.fine(x, 1, "first 0;");
        Check.fault(x, 1, 0, ";");
        Check.fine(x, 0, "");
    }

    /** Promise 7: "NONE for another what." */
    private static void faultOfAnotherWhat() {
        CarnivalRoad x = Check.floats(1);
        for (int i = 0; i < 2; i++) {
            Check.same("fault 2", x.fault(2), NONE);
            for (int what : OTHER_WHATS) {
                Check.same("fault " + what, x.fault(what), NONE);
            }
            Check.fault(x, 2, 6, "first 1;");
        }
    }

    /** Promise 8: "What 0 GUESTS, 1 BARS, 2 R, 3 GAP, 4 1 if there is a run, else 0." */
    private static void lookAtEach() {
        CarnivalRoad x = new CarnivalRoad();
        Check.same("no run", x.look(4), 0);
        Check.no("begin", x.begin());
        Check.same("no run", x.look(4), 0);
        CarnivalRoad y = busy();
        int[] due = {3, 1, 5, 0, 1};
        for (int what = 0; what < 5; what++) {
            Check.same("look " + what, y.look(what), due[what]);
        }
        y.run(500);
        Check.same("a run that ended answers yet", y.look(4), 1);
        Check.yes("minute", y.minute() > 3);
    }

    /** Promise 8: "NONE for another what." */
    private static void lookAtAnotherWhat() {
        CarnivalRoad x = busy();
        Check.same("look 5", x.look(5), NONE);
        for (int what : OTHER_WHATS) {
            Check.same("look " + what, x.look(what), NONE);
        }
    }

    /** Promise 9: "THE ROW by four bits a place, the first the lowest: true". */
    private static void layTheFirstLowest() {
        CarnivalRoad x = Check.floats(1, 2, 3);
        Check.yes("lay", x.lay(0x102));
        Check.row(x, 2, 0, 1);
        CarnivalRoad y = Check.floats(0, 0, 0, 0, 0, 0, 0, 0);
        Check.yes("lay", y.lay(0x76543210));
        Check.row(y, 0, 1, 2, 3, 4, 5, 6, 7);
        Check.yes("lay", y.lay(0x01234567));
        Check.row(y, 7, 6, 5, 4, 3, 2, 1, 0);
        CarnivalRoad one = Check.floats(0);
        Check.yes("lay", one.lay(0));
        Check.row(one, 0);
    }

    /** Promise 9: "the run is over". */
    private static void layEndsTheRun() {
        CarnivalRoad x = busy();
        Check.lay(x, 1, 2, 0);
        Check.over(x, "lay");
        again(x);
        Check.lay(x, 1, 2, 0);
        Check.over(x, "lay of the same row");
    }

    /** Promise 9: "False, and nothing is done, if it has not each GUEST once." */
    private static void layNotEachOnce() {
        CarnivalRoad x = busy();
        String before = Check.seen(x);
        int[] none = {0x000, 0x011, 0x100, 0x211, 0x310, 0x013, 0x021 | 0x800, 0xf10, 0x00f, -1,
            Integer.MIN_VALUE, 0x2100};
        for (int row : none) {
            Check.no("lay " + Integer.toHexString(row), x.lay(row));
        }
        nothingDone(x, before, "lay");
        CarnivalRoad y = Check.floats(0, 0, 0, 0, 0, 0, 0, 0);
        int[] noneOfEight = {0x86543210, 0x06543210, 0x76543211, 0xf6543210, 0x76543218, -1};
        for (int row : noneOfEight) {
            Check.no("lay " + Integer.toHexString(row), y.lay(row));
        }
        CarnivalRoad one = Check.floats(0);
        Check.no("lay 1", one.lay(1));
        Check.no("lay 15", one.lay(15));
    }

    /** Promise 9: "if it has not each GUEST once": without GUESTS each row has them all. */
    private static void layWithoutGuests() {
        Check.yes("lay", new CarnivalRoad().lay(0));
        Check.yes("lay", new CarnivalRoad().lay(77));
        Check.yes("lay", new CarnivalRoad().lay(-1));
    }

    /** Promise 10: "NONE if there is none such." */
    private static void placeOfNoneSuch() {
        for (int count = 0; count <= 8; count++) {
            CarnivalRoad x = Check.floats(new int[count]);
            int[] none = {-1, count, 8, 9, Integer.MIN_VALUE, Integer.MAX_VALUE};
            for (int i : none) {
                Check.same("place " + i + " of " + count, x.place(i), NONE);
            }
            if (count > 0) {
                Check.same("the last place", x.place(count - 1), count - 1);
                Check.same("the first place", x.place(0), 0);
            }
        }
    }

    /** Promise 11: "How many rows keep all BARS.": from none to all, with 0 to 8 guests. */
    private static void ordersOfNoneAndAll() {
        int all = 1;
        for (int count = 0; count <= 8; count++) {
            all *= Math.max(1, count);
            CarnivalRoad x = Check.floats(new int[count]);
            Check.same("orders of " + count, x.orders(), all);
            Check.fine(x, 1, "first kind 4;");
            Check.same("none", x.orders(), 0);
            Check.fine(x, 2, "loud 0;ahead kind 4 kind 0;");
            Check.same("all", x.orders(), all);
        }
    }

    /** Promise 12: "THE ROW becomes the k-th of these: true". */
    private static void pickTheKth() {
        CarnivalRoad x = Check.floats(1, 2, 3);
        Check.fine(x, 1, "ahead 2 1;");
        int[][] rows = {{0, 2, 1}, {2, 0, 1}, {2, 1, 0}};
        for (int k = 0; k < 3; k++) {
            Check.yes("pick " + k, x.pick(k));
            Check.row(x, rows[k]);
        }
        CarnivalRoad y = Check.floats(0, 0, 0, 0, 0, 0, 0, 0);
        Check.yes("pick the last", y.pick(40319));
        Check.row(y, 7, 6, 5, 4, 3, 2, 1, 0);
        Check.yes("pick the first", y.pick(0));
        Check.row(y, 0, 1, 2, 3, 4, 5, 6, 7);
        Check.yes("the only row without guests", new CarnivalRoad().pick(0));
    }

    /** Promise 12: "the run is over". */
    private static void pickEndsTheRun() {
        CarnivalRoad x = busy();
        Check.yes("pick", x.pick(1));
        Check.over(x, "pick");
        Check.row(x, 1, 2, 0);
        again(x);
        Check.yes("pick", x.pick(1));
        Check.over(x, "pick of the same row");
    }

    /** Promise 12: "False, and nothing is done, if there is none such." */
    private static void pickNoneSuch() {
        CarnivalRoad x = busy();
        String before = Check.seen(x);
        int[] none = {2, 3, -1, 40320, Integer.MIN_VALUE, Integer.MAX_VALUE};
        for (int k : none) {
            Check.no("pick " + k, x.pick(k));
        }
        nothingDone(x, before, "pick");
        CarnivalRoad y = Check.floats(0, 0, 0, 0, 0, 0, 0, 0);
        Check.no("pick beyond all", y.pick(40320));
        Check.row(y, 0, 1, 2, 3, 4, 5, 6, 7);
        Check.no("pick without guests", new CarnivalRoad().pick(1));
        CarnivalRoad z = Check.floats(1, 2);
        Check.fine(z, 1, "first kind 4;");
        Check.no("pick of none", z.pick(0));
    }

    /** Promise 13: "The number of THE ROW among them". */
    private static void rankOfFirstAndLast() {
        CarnivalRoad x = Check.floats(1, 2, 3);
        Check.fine(x, 1, "ahead 2 1;");
        Check.lay(x, 0, 2, 1);
        Check.same("the first", x.rank(), 0);
        Check.lay(x, 2, 1, 0);
        Check.same("the last", x.rank(), 2);
        CarnivalRoad y = Check.floats(0, 0, 0, 0, 0, 0, 0, 0);
        Check.same("the first of all", y.rank(), 0);
        Check.lay(y, 7, 6, 5, 4, 3, 2, 1, 0);
        Check.same("the last of all", y.rank(), 40319);
        Check.same("without guests", new CarnivalRoad().rank(), 0);
    }

    /** Promise 13: "NONE if it is none." */
    private static void rankOfNone() {
        CarnivalRoad x = Check.floats(1, 2, 3);
        Check.fine(x, 1, "ahead 2 1;");
        int[][] none = {{0, 1, 2}, {1, 0, 2}, {1, 2, 0}};
        for (int[] row : none) {
            Check.lay(x, row);
            Check.same("rank", x.rank(), NONE);
        }
        Check.fine(x, 1, "last kind 1;");
        Check.same("of no rows", x.rank(), NONE);
        // a horse's own bar counts as well
        CarnivalRoad y = Check.with(2, 1, 0, 1, 0, 0, 1, 1, 1, 0);
        Check.same("a horse's", y.rank(), NONE);
    }

    /** Promise 14: "THE ROW becomes the one of the least NOISE of these: that". */
    private static void bestIsTheLeast() {
        CarnivalRoad x = Check.floats(9, 9, 0, 1);
        // 9 0 9 1 makes 9, as 9 0 1 9 and others do: of the least ones the first by order
        Check.same("best", x.best(), 9);
        Check.row(x, 0, 2, 1, 3);
        Check.same("noise", x.noise(), 9);
        Check.fine(x, 1, "first 2;");
        Check.same("best of these", x.best(), 18);
        Check.row(x, 2, 0, 3, 1);
        CarnivalRoad y = Check.floats(0, 0, 0);
        Check.lay(y, 2, 1, 0);
        Check.same("the least there can be", y.best(), 0);
        CarnivalRoad loud = Check.floats(9, 9, 9, 9, 9, 9, 9, 9);
        Check.lay(loud, 7, 6, 5, 4, 3, 2, 1, 0);
        Check.same("the most there can be", loud.best(), 567);
        Check.same("one guest", Check.floats(9).best(), 0);
        Check.same("without guests", new CarnivalRoad().best(), 0);
    }

    /** Promise 14: "the run is over". */
    private static void bestEndsTheRun() {
        CarnivalRoad x = busy();
        Check.same("best", x.best(), 9 * 2 + 2 * 3);
        Check.over(x, "best");
        Check.row(x, 1, 2, 0);
        again(x);
        Check.same("best", x.best(), 24);
        Check.over(x, "best of the same row");
    }

    /** Promise 14: "NONE, and nothing is done, if there is none." */
    private static void bestOfNone() {
        CarnivalRoad x = busy();
        Check.same("load", Check.load(x, "last kind 4;"), 1);
        String before = Check.seen(x);
        Check.same("best", x.best(), NONE);
        nothingDone(x, before, "best");
        CarnivalRoad y = new CarnivalRoad();
        Check.fine(y, 1, "first kind 0;");
        Check.same("without guests", y.best(), NONE);
    }

    /** Promise 15: "The NOISE of THE ROW.": whether it keeps the BARS or not, and the run goes on. */
    private static void noiseIsOfTheRowAlone() {
        CarnivalRoad x = busy();
        String before = Check.seen(x);
        Check.same("rank", x.rank(), NONE);
        Check.same("noise", x.noise(), 2 * 3 + 3 * 9);
        nothingDone(x, before, "noise");
    }

    /** Promise 16: "NONE if THE ROW keeps all". */
    private static void whyOfARowThatKeepsAll() {
        CarnivalRoad x = Check.floats(1, 2, 3);
        Check.why(x, NONE, NONE, NONE);
        Check.fine(x, 5, "first 0;last 2;ahead 0 1;far 0 2 2;loud 5;");
        Check.why(x, NONE, NONE, NONE);
        Check.why(Check.with(2, 1, 9, 1, 0), NONE, NONE, NONE);
        Check.why(new CarnivalRoad(), NONE, NONE, NONE);
    }

    /** Promise 16: "or for another what". */
    private static void whyOfAnotherWhat() {
        CarnivalRoad x = Check.floats(1, 2, 3);
        Check.fine(x, 1, "first 1;");
        for (int i = 0; i < 2; i++) {
            Check.same("why 3", x.why(3), NONE);
            for (int what : OTHER_WHATS) {
                Check.same("why " + what, x.why(what), NONE);
            }
            Check.lay(x, 1, 0, 2);
        }
    }

    /** Promise 17: "THE ROAD has r cells and a GAP, no WIRES, no STANDS: true". */
    private static void roadTakesWiresAndStandsAway() {
        CarnivalRoad x = Check.floats(1);
        Check.yes("road", x.road(50, 0));
        for (int cell = 0; cell < 50; cell++) {
            Check.yes("wire", x.wire(cell, 1));
            Check.yes("stand", x.stand(cell, 9));
        }
        Check.yes("shorter", x.road(1, 2));
        Check.same("passes", x.passes(0), NONE);
        Check.yes("begin", x.begin());
        Check.same("ends", x.ends(0), 2);
        Check.yes("longer", x.road(50, 3));
        Check.same("passes", x.passes(0), NONE);
        Check.yes("begin", x.begin());
        Check.same("ends", x.ends(0), 51);
        // the same road once more takes them away too
        Check.yes("wire", x.wire(7, 1));
        Check.yes("stand", x.stand(7, 1));
        Check.yes("the same", x.road(50, 3));
        Check.same("passes", x.passes(0), NONE);
        Check.yes("begin", x.begin());
        Check.same("ends", x.ends(0), 51);
    }

    /** Promise 17: "the run is over". */
    private static void roadEndsTheRun() {
        CarnivalRoad x = busy();
        Check.yes("road", x.road(5, 0));
        Check.over(x, "road");
        Check.row(x, 2, 0, 1);
        Check.same("bars", x.look(1), 1);
        again(x);
    }

    /** Promise 17: "False, and nothing is done, if one can't be." */
    private static void roadThatCannotBe() {
        CarnivalRoad x = busy();
        String before = Check.seen(x);
        int[][] none = {{0, 1}, {51, 1}, {-1, 0}, {7, -1}, {7, 4}, {0, 4}, {Integer.MIN_VALUE, 0},
            {Integer.MAX_VALUE, 0}, {7, Integer.MIN_VALUE}, {7, Integer.MAX_VALUE}};
        for (int[] r : none) {
            Check.no("road of " + r[0] + " and " + r[1], x.road(r[0], r[1]));
        }
        nothingDone(x, before, "road");
    }

    /** Promise 18: "A WIRE at a cell": the first one, the last one, none beside the ROAD. */
    private static void wireAtACell() {
        int[] lengths = {1, 2, 20, 50};
        for (int cells : lengths) {
            CarnivalRoad x = Check.floats(1);
            Check.yes("road", x.road(cells, 0));
            Check.yes("wire at the last", x.wire(cells - 1, 4));
            Check.same("passes", x.passes(0), cells - 1);
            Check.yes("wire at the first", x.wire(0, 4));
            Check.same("passes", x.passes(0), 0);
            Check.no("wire beyond", x.wire(cells, 4));
            Check.no("wire beyond", x.wire(50, 4));
            Check.no("wire before", x.wire(-1, 4));
        }
    }

    /** Promise 18: "(0: none)". */
    private static void wireOfNone() {
        CarnivalRoad x = Check.floats(1);
        Check.yes("none where there is none", x.wire(3, 0));
        Check.yes("wire", x.wire(3, 4));
        Check.same("passes", x.passes(0), 3);
        Check.yes("none", x.wire(3, 0));
        Check.same("passes", x.passes(0), NONE);
    }

    /** Promise 18: "the run is over". */
    private static void wireEndsTheRun() {
        CarnivalRoad x = busy();
        Check.yes("wire", x.wire(2, 9));
        Check.over(x, "wire");
        again(x);
        Check.yes("wire", x.wire(3, 0));
        Check.over(x, "wire of none");
    }

    /** Promise 18: "False, and nothing is done, if one can't be." */
    private static void wireThatCannotBe() {
        CarnivalRoad x = busy();
        String before = Check.seen(x);
        int[][] none = {{-1, 1}, {5, 1}, {5, 0}, {0, -1}, {0, 10}, {-1, 10}, {Integer.MIN_VALUE, 1},
            {Integer.MAX_VALUE, 1}, {0, Integer.MIN_VALUE}, {0, Integer.MAX_VALUE}};
        for (int[] w : none) {
            Check.no("wire at " + w[0] + " of " + w[1], x.wire(w[0], w[1]));
        }
        nothingDone(x, before, "wire");
    }

    /** Promise 19: "A STAND at a cell": the first one, the last one, none beside the ROAD. */
    private static void standAtACell() {
        int[] lengths = {1, 2, 20, 50};
        for (int cells : lengths) {
            CarnivalRoad x = Check.floats(1);
            Check.yes("road", x.road(cells, 0));
            Check.yes("stand at the last", x.stand(cells - 1, 4));
            Check.yes("begin", x.begin());
            Check.same("ends", x.ends(0), cells + 5);
            Check.yes("stand at the first", x.stand(0, 2));
            Check.yes("begin", x.begin());
            Check.same("ends", x.ends(0), cells == 1 ? 4 : cells + 7);
            Check.no("stand beyond", x.stand(cells, 4));
            Check.no("stand beyond", x.stand(50, 4));
            Check.no("stand before", x.stand(-1, 4));
        }
    }

    /** Promise 19: "the run is over". */
    private static void standEndsTheRun() {
        CarnivalRoad x = busy();
        Check.yes("stand", x.stand(2, 9));
        Check.over(x, "stand");
        again(x);
        Check.yes("stand", x.stand(3, 0));
        Check.over(x, "stand of 0 minutes");
    }

    /** Promise 19: "False, and nothing is done, if one can't be." */
    private static void standThatCannotBe() {
        CarnivalRoad x = busy();
        String before = Check.seen(x);
        int[][] none = {{-1, 1}, {5, 1}, {5, 0}, {3, -1}, {3, 10}, {-1, 10}, {Integer.MIN_VALUE, 1},
            {Integer.MAX_VALUE, 1}, {3, Integer.MIN_VALUE}, {3, Integer.MAX_VALUE}};
        for (int[] s : none) {
            Check.no("stand at " + s[0] + " of " + s[1], x.stand(s[0], s[1]));
        }
        nothingDone(x, before, "stand");
    }

    /** Promise 20: "The first cell at which GUEST g can't pass". */
    private static void passesTheFirstCell() {
        CarnivalRoad x = Check.with(0, 1, 0, 9, 0, 0, 1, 0, 5, 0);
        Check.yes("wire", x.wire(19, 4));
        Check.same("at the last cell", x.passes(0), 19);
        Check.same("at the last cell", x.passes(1), 19);
        Check.yes("wire", x.wire(9, 8));
        Check.same("before it", x.passes(0), 9);
        Check.same("the lower one passes there", x.passes(1), 19);
        Check.yes("wire", x.wire(0, 1));
        Check.same("at the first cell", x.passes(0), 0);
        Check.same("at the first cell", x.passes(1), 0);
    }

    /** Promise 20: "NONE if it can all." */
    private static void passesThemAll() {
        CarnivalRoad x = Check.floats(1);
        Check.same("no wires", x.passes(0), NONE);
        for (int cell = 0; cell < 20; cell++) {
            Check.yes("wire", x.wire(cell, 5));
        }
        Check.same("as high as it is tall", x.passes(0), NONE);
        Check.yes("wire", x.wire(12, 4));
        Check.same("one that is lower", x.passes(0), 12);
    }

    /** Promise 20: "IndexOutOfBoundsException: no such GUEST." */
    private static void passesNoSuchGuest() {
        for (int count = 0; count <= 8; count++) {
            CarnivalRoad x = Check.floats(new int[count]);
            int[] none = {-1, count, 8, Integer.MIN_VALUE, Integer.MAX_VALUE};
            for (int g : none) {
                Check.noGuest("passes " + g, () -> x.passes(g));
            }
            if (count > 0) {
                Check.same("the last", x.passes(count - 1), NONE);
            }
        }
    }
}
