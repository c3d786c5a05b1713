/** Promises 1 to 20: guests, tape, bars, rows and the road. */
public final class PromiseTests {
    private static final int NONE = CarnivalRoad.NONE;

    private PromiseTests() {
    }

    public static void main(String[] args) {
        promise1NewObject();
        promise2Guest();
        promise3Of();
        promise4Feed();
        promise5End();
        promise6Load();
        promise7FaultOfPlace();
        promise7FaultOfNumber();
        promise7FaultOfTheEleventhBar();
        promise8Look();
        promise9Lay();
        promise10Place();
        promise11Orders();
        promise11OrdersOfThingsThatAreNone();
        promise12Pick();
        promise13Rank();
        promise14Best();
        promise15Noise();
        promise16Why();
        promise16WhyTheFirstPair();
        promise17Road();
        promise18Wire();
        promise19Stand();
        promise20Passes();
        Check.close("PromiseTests");
    }

    private static CarnivalRoad floats(int... louds) {
        return Check.floats(louds);
    }

    private static void row(CarnivalRoad x, int... guests) {
        Check.row(x, guests);
    }

    private static void why(CarnivalRoad x, int bar, int lesser, int greater) {
        Check.why(x, bar, lesser, greater);
        Check.same("rank agrees with why", x.rank() == NONE ? 1 : 0, bar == NONE ? 0 : 1);
    }

    private static void fault(int fault, int place, String text) {
        CarnivalRoad x = floats(1, 2, 3);
        Check.same("load of nothing", x.load(), 0);
        Check.fault(x, fault, place, text);
    }

    private static void fine(int bars, String text) {
        Check.fine(floats(1, 2, 3), bars, text);
    }

    /** Tells that a call ended the run, and starts one again. */
    private static void over(CarnivalRoad x, String call) {
        Check.same("run behind " + call, x.look(4), 0);
        Check.noRun("minute behind " + call, () -> x.minute());
        Check.yes("begin", x.begin());
    }

    private static void goesOn(CarnivalRoad x, int minute, String call) {
        Check.same("run behind " + call, x.look(4), 1);
        Check.same("minute behind " + call, x.minute(), minute);
    }

    private static void promise1NewObject() {
        CarnivalRoad x = new CarnivalRoad();
        Check.same("NONE", CarnivalRoad.NONE, -1);
        int[] looks = {0, 0, 20, 1, 0};
        for (int i = 0; i < looks.length; i++) {
            Check.same("look " + i, x.look(i), looks[i]);
        }
        Check.same("fault", x.fault(0), 0);
        Check.same("its place", x.fault(1), NONE);
        row(x);
        why(x, NONE, NONE, NONE);
        Check.same("orders", x.orders(), 1);
        Check.same("rank", x.rank(), 0);
        Check.yes("pick", x.pick(0));
        Check.no("pick", x.pick(1));
        Check.same("best", x.best(), 0);
        Check.same("noise", x.noise(), 0);
        Check.no("end", x.end(1));
        Check.no("begin", x.begin());
        Check.noRun("run", () -> x.run(0));
    }

    private static void promise2Guest() {
        CarnivalRoad x = new CarnivalRoad();
        int[][] none = {{-1, 1, 0, 1, 0}, {5, 1, 0, 1, 0}, {0, 0, 0, 1, 0}, {0, 6, 0, 1, 0},
            {0, 1, -1, 1, 0}, {0, 1, 10, 1, 0}, {0, 1, 0, 0, 0}, {0, 1, 0, 10, 0},
            {0, 1, 0, 1, -1}, {0, 1, 0, 1, 10}, {Integer.MIN_VALUE, 1, 0, 1, 0},
            {0, Integer.MAX_VALUE, 0, 1, 0}};
        Check.same("guest", x.guest(0, 1, 0, 1, 0), 0);
        Check.same("guest", x.guest(4, 5, 9, 9, 9), 1);
        Check.yes("lay", x.lay(0x01));
        Check.yes("begin", x.begin());
        for (int[] g : none) {
            Check.same("guest that can't be", x.guest(g[0], g[1], g[2], g[3], g[4]), NONE);
        }
        Check.same("guests", x.look(0), 2);
        goesOn(x, 0, "a guest that can't be");
        row(x, 1, 0);
        Check.same("guest", x.guest(1, 1, 0, 1, 0), 2);
        over(x, "guest");
        row(x, 0, 1, 2);
        for (int g = 3; g < 8; g++) {
            Check.same("guest", x.guest(g % 5, 1, 0, 1, 0), g);
        }
        Check.yes("lay", x.lay(0x76543201));
        Check.yes("begin", x.begin());
        Check.same("ninth guest", x.guest(0, 1, 0, 1, 0), NONE);
        goesOn(x, 0, "the ninth guest");
        row(x, 1, 0, 2, 3, 4, 5, 6, 7);
    }

    private static void promise3Of() {
        CarnivalRoad x = new CarnivalRoad();
        int[][] guests = {{0, 5, 9, 1, 9}, {4, 1, 0, 9, 0}, {2, 3, 4, 5, 6}};
        for (int[] g : guests) {
            x.guest(g[0], g[1], g[2], g[3], g[4]);
        }
        for (int g = 0; g < 3; g++) {
            for (int what = 0; what < 5; what++) {
                Check.same("of " + g + " " + what, x.of(g, what), guests[g][what]);
            }
            Check.same("of 5", x.of(g, 5), NONE);
            Check.same("of -1", x.of(g, -1), NONE);
        }
        Check.noGuest("of 3", () -> x.of(3, 0));
        Check.noGuest("of -1", () -> x.of(-1, 0));
        Check.noGuest("of 8", () -> x.of(8, 9));
        Check.noGuest("of least", () -> x.of(Integer.MIN_VALUE, 0));
        Check.noGuest("of none", () -> new CarnivalRoad().of(0, 0));
    }

    private static void promise4Feed() {
        CarnivalRoad x = floats(1);
        for (int n = 20; n <= 400; n += 20) {
            Check.same("feed", x.feed(0x20202020, 0x20202020, 0x20202020, 0x20202020, 0x20202020), n);
        }
        Check.same("feed beyond 400", x.feed(0, 0, 0, 0, 0), NONE);
        Check.no("end 401", x.end(401));
        Check.yes("end 381", x.end(381));
        Check.same("feed beyond 400", x.feed(0, 0, 0, 0, 0), NONE);
        Check.no("end 382", x.end(382));
        Check.same("load", x.load(), 0);
        // "loud 7; kind"
        Check.same("feed", x.feed(0x6c6f7564, 0x20373b20, 0x6b696e64, 0x80ffff00, -1), 20);
        Check.same("load", x.load(), NONE);
        Check.same("fault at kind", x.fault(1), 8);
        // five numbers behind one another: "first 0; " with the last of the twenty a ;
        Check.same("feed", x.feed(0x66697273, 0x74202020, 0x20202020, 0x20202020, 0x2020303b), 20);
        Check.same("load", x.load(), 1);
    }

    private static void promise5End() {
        CarnivalRoad x = floats(1, 2);
        Check.put(x, "first 0; last 1; loud 3;");
        Check.no("end below 0", x.end(-1));
        Check.no("end least", x.end(Integer.MIN_VALUE));
        Check.no("end beyond", x.end(25));
        Check.yes("end all", x.end(24));
        Check.yes("end 16", x.end(16));
        Check.no("end 17", x.end(17));
        Check.same("load", x.load(), 2);
        Check.no("end of empty", x.end(1));
        Check.yes("end 0 of empty", x.end(0));
        // what was cut off is not read, even if it would go on with a word or a number
        faultOfCut(0, "first 0;", 4);
        faultOfCut(7, "loud 123;", 7);
        faultOfCut(7, "first 0;", 7);
    }

    private static void faultOfCut(int place, String text, int n) {
        CarnivalRoad x = floats(1, 2);
        Check.put(x, text);
        Check.yes("end", x.end(n));
        Check.same("load of '" + text + "' cut", x.load(), NONE);
        Check.same("fault of '" + text + "' cut", x.fault(0), 1);
        Check.same("its place in '" + text + "' cut", x.fault(1), place);
    }

    private static void promise6Load() {
        CarnivalRoad x = floats(1, 2, 3);
        Check.yes("lay", x.lay(0x012));
        Check.yes("begin", x.begin());
        Check.same("run", x.run(1), 1);
        Check.same("load", Check.load(x, "first 0; last 1;"), 2);
        goesOn(x, 1, "load");
        row(x, 2, 1, 0);
        Check.no("tape is empty", x.end(1));
        Check.same("orders", x.orders(), 1);
        Check.same("load in place", Check.load(x, "last 0;"), 1);
        Check.same("orders", x.orders(), 2);
        Check.same("load of a fault", Check.load(x, "first 1; last 1; x"), NONE);
        Check.no("tape is empty", x.end(1));
        Check.same("bars stay", x.look(1), 1);
        Check.same("orders stay", x.orders(), 2);
        goesOn(x, 1, "a fault");
        Check.same("load of nothing", x.load(), 0);
        Check.same("orders", x.orders(), 6);
        Check.same("ten bars", Check.load(x, "loud 5;loud 5;loud 5;loud 5;loud 5;"
            + "loud 5;loud 5;loud 5;loud 5;loud 4;"), 10);
        why(x, 9, 0, 1);
        fine(0, "");
        fine(0, " \n \n");
        fine(1, "far0 1 1;");
        fine(1, "\nfar\n0\n01 07 ;\n");
        fine(2, "ahead kind 0kind 4;first kind 00;");
        fine(2, "loud 0;loud 18;");
        fine(5, "far 2 2 7;ahead 1 1;first 2;last 0;loud 09;");
    }

    private static void promise7FaultOfPlace() {
        fault(1, 0, "x");
        fault(1, 0, "kind 1;");
        fault(1, 0, "7;");
        fault(1, 0, ";");
        fault(1, 0, ".");
        fault(1, 0, "Far 0 1 2;");
        fault(1, 0, "farx 0 1 2;");
        fault(1, 0, "farX 0 1 2;");
        fault(1, 0, "fara 0 1 2;");
        fault(1, 0, "farz 0 1 2;");
        fault(1, 0, "farA 0 1 2;");
        fault(1, 0, "farZ 0 1 2;");
        fault(1, 3, "far@ 0 1 2;");
        fault(1, 3, "far[ 0 1 2;");
        fault(1, 3, "far` 0 1 2;");
        fault(1, 3, "far{ 0 1 2;");
        fault(1, 5, "far 0/ 1 2;");
        fault(1, 5, "far 0: 1 2;");
        fault(1, 3, "far\t0 1 2;");
        fault(1, 3, "far\r0 1 2;");
        fault(1, 3, "far\u00e9 0 1 2;");
        fault(1, 1, " \u0000");
        fault(1, 8, "first 0;;");
        fault(1, 4, "far ;");
        fault(1, 4, "far far;");
        fault(1, 4, "far 000 1 2;");
        fault(1, 9, "far kind 001 1 2;");
        fault(1, 9, "far kind kind 1 2;");
        fault(1, 6, "far 0 x 2;");
        fault(1, 7, "far 0 1;");
        fault(1, 8, "far 0 1 kind 2;");
        fault(1, 8, "far 0 1 123;");
        fault(1, 10, "far 0 1 2 3;");
        fault(1, 7, "ahead 0;");
        fault(1, 10, "ahead 0 1 2;");
        fault(1, 8, "first 0 1;");
        fault(1, 6, "last 0first 1;");
        fault(1, 5, "loud kind 1;");
        fault(1, 7, "loud 1 first;");
        fault(1, 3, "far");
        fault(1, 6, "far   ");
        fault(1, 5, "far 0");
        fault(1, 9, "far 0 1 2");
        fault(1, 12, "far 0 1 2 \n ");
        fault(1, 8, "far kind");
        fault(1, 16, "first 0; last 1 ");
        CarnivalRoad x = new CarnivalRoad();
        Check.same("another what", x.fault(2), NONE);
        Check.same("another what", x.fault(-1), NONE);
        Check.same("load", Check.load(x, "x"), NONE);
        Check.same("fault", x.fault(0), 1);
        Check.same("another what", x.fault(2), NONE);
        Check.same("load", x.load(), 0);
        Check.same("fault", x.fault(0), 0);
        Check.same("its place", x.fault(1), NONE);
    }

    private static void promise7FaultOfNumber() {
        fault(2, 4, "far 3 1 2;");
        fault(2, 4, "far 99 x");
        fault(2, 6, "far 0 3 2;");
        fault(2, 9, "far kind 5 1 2;");
        fault(2, 11, "far 0 kind 10 2;");
        fault(2, 8, "far 0 1 0;");
        fault(2, 8, "far 0 1 8;");
        fault(2, 8, "far 0 1 08 x");
        fault(2, 6, "ahead 3 0;");
        fault(2, 8, "ahead 0 3;");
        fault(2, 6, "first 3;");
        fault(2, 10, "last kind 5;");
        fault(2, 5, "loud 19;");
        fault(2, 5, "loud 99");
        fault(2, 14, "first 2;first 3;");
        CarnivalRoad x = new CarnivalRoad();
        Check.same("load without guests", Check.load(x, "first 0;"), NONE);
        Check.same("fault", x.fault(0), 2);
        Check.same("its place", x.fault(1), 6);
        Check.same("kinds without guests", Check.load(x, "first kind 0;"), 1);
    }

    private static void promise7FaultOfTheEleventhBar() {
        String ten = "loud 1;loud 1;loud 1;loud 1;loud 1;loud 1;loud 1;loud 1;loud 1;loud 1;";
        fine(10, ten);
        fine(10, ten + " \n");
        fault(3, 70, ten + "loud 1;");
        fault(3, 72, ten + "\n first 0;");
        fault(3, 70, ten + "far");
        fault(3, 70, ten + "ahead 9 9;");
        fault(3, 70, ten + "last x");
        fault(1, 70, ten + "kind 1;");
        fault(1, 70, ten + "x");
        fault(1, 70, ten + ";");
        fault(2, 5, "loud 19;" + ten + ten);
    }

    private static void promise8Look() {
        CarnivalRoad x = floats(1, 2);
        Check.same("load", Check.load(x, "loud 9;first 0;last 1;"), 3);
        Check.yes("road", x.road(50, 3));
        Check.yes("begin", x.begin());
        int[] looks = {2, 3, 50, 3, 1};
        for (int i = 0; i < looks.length; i++) {
            Check.same("look " + i, x.look(i), looks[i]);
        }
        Check.same("look 5", x.look(5), NONE);
        Check.same("look -1", x.look(-1), NONE);
        Check.same("look 3 again", x.look(3), 3);
        Check.same("run to the end", x.run(500), 55);
        Check.same("look 4 at the end", x.look(4), 1);
    }

    private static void promise9Lay() {
        CarnivalRoad x = floats(1, 2, 3);
        Check.yes("begin", x.begin());
        Check.no("lay twice the same", x.lay(0x011));
        Check.no("lay none such", x.lay(0x310));
        Check.no("lay none such", x.lay(0xf10));
        Check.no("lay 0", x.lay(0));
        goesOn(x, 0, "a row that can't be");
        row(x, 0, 1, 2);
        Check.yes("lay", x.lay(0x102));
        over(x, "lay");
        row(x, 2, 0, 1);
        Check.yes("lay the same", x.lay(0x102));
        over(x, "lay of the same");
        Check.yes("lay with more bits", x.lay(0x7654021));
        row(x, 1, 2, 0);
        CarnivalRoad y = floats(1, 2, 3, 4, 5, 6, 7, 8);
        Check.yes("lay of eight", y.lay(0x76543210));
        row(y, 0, 1, 2, 3, 4, 5, 6, 7);
        Check.yes("lay of eight", y.lay(0x01234567));
        row(y, 7, 6, 5, 4, 3, 2, 1, 0);
        Check.no("lay of eight", y.lay(0x81234567));
        Check.no("lay of eight", y.lay(0x11234567));
        Check.no("lay of eight", y.lay(-1));
        Check.yes("lay without guests", new CarnivalRoad().lay(-1));
    }

    private static void promise10Place() {
        CarnivalRoad x = floats(1, 2, 3);
        Check.yes("lay", x.lay(0x120));
        row(x, 0, 2, 1);
        Check.same("place -1", x.place(-1), NONE);
        Check.same("place 3", x.place(3), NONE);
        Check.same("place 8", x.place(8), NONE);
        Check.same("place most", x.place(Integer.MAX_VALUE), NONE);
        Check.same("place least", x.place(Integer.MIN_VALUE), NONE);
        Check.same("place of none", new CarnivalRoad().place(0), NONE);
    }

    private static int ordersOf(CarnivalRoad x, String text) {
        Check.same("load '" + text + "'", Check.load(x, text) == NONE ? 1 : 0, 0);
        return x.orders();
    }

    private static void promise11Orders() {
        CarnivalRoad x = floats(1, 2, 3, 4);
        Check.same("no bars", ordersOf(x, ""), 24);
        Check.same("far 1 bars nothing", ordersOf(x, "far 0 1 1;"), 24);
        Check.same("far 2", ordersOf(x, "far 0 1 2;"), 12);
        Check.same("far 3", ordersOf(x, "far 0 1 3;"), 4);
        Check.same("far 4", ordersOf(x, "far 0 1 4;"), 0);
        Check.same("far of itself", ordersOf(x, "far 0 0 7;"), 24);
        Check.same("ahead", ordersOf(x, "ahead 0 1;"), 12);
        Check.same("ahead of itself", ordersOf(x, "ahead 0 0;"), 24);
        Check.same("ahead both ways", ordersOf(x, "ahead 0 1;ahead 1 0;"), 0);
        Check.same("ahead of all", ordersOf(x, "ahead 3 kind 0;"), 6);
        Check.same("all ahead", ordersOf(x, "ahead kind 0 2;"), 6);
        Check.same("first", ordersOf(x, "first 2;"), 6);
        Check.same("first of all", ordersOf(x, "first kind 0;"), 24);
        Check.same("last", ordersOf(x, "last 2;"), 6);
        Check.same("first and last", ordersOf(x, "first 0;last 2;"), 2);
        Check.same("both first", ordersOf(x, "first 0;first 1;"), 0);
        Check.same("loud 7", ordersOf(x, "loud 7;"), 24);
        Check.same("loud 6", ordersOf(x, "loud 6;"), 12);
        Check.same("loud 0", ordersOf(x, "loud 0;"), 0);
        Check.yes("begin", x.begin());
        Check.same("orders", x.orders(), 0);
        goesOn(x, 0, "orders");
        // bars of earlier texts bar nothing more
        Check.same("both ends", ordersOf(x, "loud 7;first 0;last 1;far 2 3 2;"), 0);
        Check.same("both ends", ordersOf(x, "loud 7;first 0;last 1;far 2 3 1;"), 2);
        Check.same("one bar", ordersOf(x, "loud 7;"), 24);
        Check.same("no bar", ordersOf(x, ""), 24);
        CarnivalRoad y = floats(0, 0, 0, 0, 0, 0, 0, 0);
        Check.same("eight", y.orders(), 40320);
        CarnivalRoad z = new CarnivalRoad();
        z.guest(2, 1, 5, 1, 4);
        z.guest(0, 1, 5, 1, 0);
        Check.same("horse beside a loud one", z.orders(), 0);
        z.guest(0, 1, 4, 1, 0);
        Check.same("horse two from a loud one", z.orders(), 0);
        z.guest(0, 1, 4, 1, 0);
        Check.same("horse three from a loud one", z.orders(), 4);
        CarnivalRoad h = new CarnivalRoad();
        h.guest(2, 1, 5, 1, 4);
        h.guest(2, 1, 0, 1, 9);
        Check.same("its own loud does not fright it", h.orders(), 2);
        h.guest(2, 1, 0, 1, 4);
        Check.same("a horse frights another", h.orders(), 0);
    }

    private static void promise11OrdersOfThingsThatAreNone() {
        CarnivalRoad x = floats(1, 2, 3);
        Check.same("far of none", ordersOf(x, "far kind 1 0 7;"), 6);
        Check.same("ahead of none", ordersOf(x, "ahead kind 1 0;ahead 0 kind 1;"), 6);
        Check.same("first of none", ordersOf(x, "first kind 1;"), 0);
        Check.same("last of none", ordersOf(x, "last kind 1;"), 0);
        Check.same("a band comes", x.guest(1, 1, 0, 1, 0), 3);
        Check.same("last of one", x.orders(), 6);
        CarnivalRoad y = new CarnivalRoad();
        Check.same("far without guests", ordersOf(y, "far kind 0 kind 0 7;loud 0;ahead kind 1 kind 1;"), 1);
        Check.same("first without guests", ordersOf(y, "first kind 0;"), 0);
        Check.same("last without guests", ordersOf(y, "last kind 0;"), 0);
        Check.no("pick without guests", y.pick(0));
        Check.same("best without guests", y.best(), NONE);
        CarnivalRoad z = floats(5);
        Check.same("one guest", ordersOf(z, "first 0;last 0;loud 0;far kind 0 0 7;"), 1);
    }

    private static void promise12Pick() {
        CarnivalRoad x = floats(1, 2, 3);
        int[] rows = {0x210, 0x120, 0x201, 0x021, 0x102, 0x012};
        for (int k = 0; k < 6; k++) {
            Check.yes("pick " + k, x.pick(k));
            row(x, rows[k] & 15, rows[k] >> 4 & 15, rows[k] >> 8);
            Check.yes("begin", x.begin());
        }
        Check.no("pick 6", x.pick(6));
        Check.no("pick -1", x.pick(-1));
        Check.no("pick most", x.pick(Integer.MAX_VALUE));
        Check.no("pick least", x.pick(Integer.MIN_VALUE));
        goesOn(x, 0, "a pick of none");
        row(x, 2, 1, 0);
        Check.yes("pick the same", x.pick(5));
        over(x, "pick");
        Check.same("load", Check.load(x, "ahead 2 1;"), 1);
        Check.yes("pick", x.pick(1));
        row(x, 2, 0, 1);
        Check.no("pick 3", x.pick(3));
        row(x, 2, 0, 1);
        CarnivalRoad y = floats(0, 0, 0, 0, 0, 0, 0, 0);
        Check.yes("pick the last of eight", y.pick(40319));
        row(y, 7, 6, 5, 4, 3, 2, 1, 0);
        Check.no("pick beyond eight", y.pick(40320));
    }

    private static void promise13Rank() {
        CarnivalRoad x = floats(1, 2, 3, 4);
        for (int k = 0; k < 24; k++) {
            Check.yes("pick", x.pick(k));
            Check.same("rank", x.rank(), k);
        }
        Check.same("load", Check.load(x, "first 2;"), 1);
        Check.same("rank of one that breaks", x.rank(), NONE);
        Check.yes("lay", x.lay(0x1032));
        Check.same("rank", x.rank(), 4);
        Check.yes("begin", x.begin());
        Check.same("rank", x.rank(), 4);
        goesOn(x, 0, "rank");
    }

    private static void promise14Best() {
        CarnivalRoad x = floats(9, 1, 8);
        Check.yes("begin", x.begin());
        Check.same("best", x.best(), 17);
        over(x, "best");
        row(x, 0, 1, 2);
        // 2 1 0 is as quiet, but comes behind
        Check.yes("lay", x.lay(0x012));
        Check.same("best again", x.best(), 17);
        row(x, 0, 1, 2);
        Check.same("load", Check.load(x, "first 2;"), 1);
        Check.same("best of these", x.best(), 17);
        row(x, 2, 1, 0);
        Check.same("load", Check.load(x, "last 1;"), 1);
        Check.same("best of these", x.best(), 80);
        row(x, 0, 2, 1);
        Check.same("load", Check.load(x, "loud 10;"), 1);
        Check.yes("begin", x.begin());
        Check.same("best of two", x.best(), 17);
        Check.same("load", Check.load(x, "loud 9;"), 1);
        Check.yes("lay", x.lay(0x102));
        Check.yes("begin", x.begin());
        Check.same("best of none", x.best(), NONE);
        goesOn(x, 0, "best of none");
        row(x, 2, 0, 1);
        CarnivalRoad y = floats(0, 0, 0);
        Check.yes("lay", y.lay(0x012));
        Check.same("best of silent ones", y.best(), 0);
        row(y, 0, 1, 2);
    }

    private static void promise15Noise() {
        CarnivalRoad x = floats(9, 1, 8, 0, 9, 9);
        Check.same("noise", x.noise(), 9 + 8 + 0 + 0 + 81);
        Check.yes("lay", x.lay(0x315420));
        Check.same("noise", x.noise(), 72 + 72 + 81 + 9 + 0);
        Check.same("noise of one", floats(9).noise(), 0);
        Check.same("noise of two", floats(9, 9).noise(), 81);
    }

    private static void promise16Why() {
        CarnivalRoad x = floats(1, 2, 3, 4);
        why(x, NONE, NONE, NONE);
        ordersOf(x, "ahead 0 1;loud 6;first 1;");
        why(x, 1, 2, 3);
        Check.same("another what", x.why(3), NONE);
        Check.same("another what", x.why(-1), NONE);
        ordersOf(x, "first 0;last 3;ahead 0 3;far 0 3 3;");
        why(x, NONE, NONE, NONE);
        ordersOf(x, "first 0;last 2;first 1;");
        why(x, 1, 3, 3);
        ordersOf(x, "first 0;first 1;");
        why(x, 1, 0, 0);
        ordersOf(x, "last kind 4;");
        why(x, 0, 3, 3);
        ordersOf(x, "loud 7;far 1 3 3;");
        why(x, 1, 1, 3);
        Check.yes("lay", x.lay(0x1032));
        ordersOf(x, "ahead 0 3;");
        why(x, 0, 1, 2);
        CarnivalRoad y = new CarnivalRoad();
        ordersOf(y, "loud 0;last kind 1;");
        why(y, 1, 0, 0);
        ordersOf(y, "first kind 1;");
        why(y, 0, 0, 0);
        y.guest(0, 1, 9, 1, 0);
        why(y, 0, 0, 0);
        y.guest(2, 1, 0, 1, 8);
        ordersOf(y, "loud 9;");
        why(y, 10, 0, 1);
        ordersOf(y, "loud 8;");
        why(y, 0, 0, 1);
    }

    private static void promise16WhyTheFirstPair() {
        CarnivalRoad x = new CarnivalRoad();
        int[] kinds = {0, 1, 3, 0, 1};
        for (int kind : kinds) {
            x.guest(kind, 1, kind, 1, 0);
        }
        ordersOf(x, "ahead kind 1 kind 0;");
        why(x, 0, 0, 1);
        ordersOf(x, "ahead 4 kind 0;");
        why(x, 0, 0, 4);
        ordersOf(x, "ahead kind 1 kind 1;");
        why(x, 0, 1, 4);
        ordersOf(x, "far kind 0 kind 0 4;");
        why(x, 0, 0, 3);
        ordersOf(x, "far kind 1 kind 0 3;");
        why(x, 0, 0, 1);
        ordersOf(x, "far kind 1 kind 0 1;far 3 kind 1 3;");
        why(x, 1, 1, 3);
        CarnivalRoad h = new CarnivalRoad();
        h.guest(0, 1, 3, 1, 0);
        h.guest(0, 1, 0, 1, 0);
        h.guest(0, 1, 4, 1, 0);
        h.guest(0, 1, 9, 1, 0);
        h.guest(2, 1, 9, 1, 3);
        why(h, 10, 2, 4);
        // 0 horse, 2 and 3 behind it
        Check.yes("lay", h.lay(0x32104));
        why(h, NONE, NONE, NONE);
        Check.yes("lay", h.lay(0x03214));
        why(h, 10, 0, 2);
    }

    private static void promise17Road() {
        CarnivalRoad x = floats(1);
        int[][] none = {{0, 1}, {51, 1}, {-1, 1}, {5, -1}, {5, 4}, {Integer.MAX_VALUE, 0},
            {5, Integer.MIN_VALUE}};
        Check.yes("wire", x.wire(3, 5));
        Check.yes("begin", x.begin());
        for (int[] r : none) {
            Check.no("road that can't be", x.road(r[0], r[1]));
        }
        goesOn(x, 0, "a road that can't be");
        Check.same("cells", x.look(2), 20);
        Check.same("gap", x.look(3), 1);
        Check.yes("wire", x.wire(3, 4));
        Check.yes("stand", x.stand(3, 9));
        Check.yes("road", x.road(4, 0));
        Check.same("cells", x.look(2), 4);
        Check.same("gap", x.look(3), 0);
        Check.same("no wires", x.passes(0), NONE);
        Check.yes("begin", x.begin());
        Check.same("no stands", x.ends(0), 5);
        Check.yes("road", x.road(1, 3));
        over(x, "road");
        Check.yes("road", x.road(50, 0));
        Check.yes("wire at 49", x.wire(49, 4));
        Check.yes("wire at 0", x.wire(0, 4));
        Check.yes("stand at 0", x.stand(0, 4));
        Check.yes("road shorter", x.road(10, 0));
        Check.yes("road longer", x.road(50, 0));
        Check.same("no wire at 49 or 0", x.passes(0), NONE);
        Check.yes("begin", x.begin());
        Check.same("no stand at 0", x.ends(0), 51);
    }

    private static void promise18Wire() {
        CarnivalRoad x = floats(1);
        Check.yes("begin", x.begin());
        Check.no("wire -1", x.wire(-1, 5));
        Check.no("wire 20", x.wire(20, 5));
        Check.no("wire most", x.wire(Integer.MAX_VALUE, 5));
        Check.no("wire as low as -1", x.wire(5, -1));
        Check.no("wire as high as 10", x.wire(5, 10));
        goesOn(x, 0, "a wire that can't be");
        Check.yes("wire 19", x.wire(19, 9));
        over(x, "wire");
        Check.yes("wire 0", x.wire(0, 1));
        Check.same("passes", x.passes(0), 0);
        Check.no("begin", x.begin());
        Check.yes("no wire", x.wire(0, 0));
        Check.same("passes", x.passes(0), NONE);
        Check.yes("begin", x.begin());
        Check.yes("short road", x.road(5, 0));
        Check.no("wire 5", x.wire(5, 1));
        Check.yes("wire 4", x.wire(4, 1));
        Check.same("passes", x.passes(0), 4);
    }

    private static void promise19Stand() {
        CarnivalRoad x = floats(1);
        Check.yes("begin", x.begin());
        Check.no("stand -1", x.stand(-1, 5));
        Check.no("stand 20", x.stand(20, 5));
        Check.no("stand least", x.stand(Integer.MIN_VALUE, 5));
        Check.no("stand of -1", x.stand(5, -1));
        Check.no("stand of 10", x.stand(5, 10));
        goesOn(x, 0, "a stand that can't be");
        Check.same("ends", x.ends(0), 21);
        Check.yes("stand 19", x.stand(19, 9));
        over(x, "stand");
        Check.same("ends", x.ends(0), 30);
        Check.yes("stand 0", x.stand(0, 1));
        Check.yes("begin", x.begin());
        Check.same("ends", x.ends(0), 31);
        Check.yes("no stand", x.stand(19, 0));
        over(x, "stand of 0");
        Check.same("ends", x.ends(0), 22);
    }

    private static void promise20Passes() {
        CarnivalRoad x = new CarnivalRoad();
        x.guest(0, 1, 0, 9, 0);
        x.guest(0, 1, 0, 5, 0);
        x.guest(0, 1, 0, 1, 0);
        for (int g = 0; g < 3; g++) {
            Check.same("no wires", x.passes(g), NONE);
        }
        Check.yes("wire", x.wire(19, 4));
        Check.yes("wire", x.wire(7, 8));
        Check.yes("wire", x.wire(9, 5));
        Check.same("the first", x.passes(0), 7);
        Check.same("as high passes", x.passes(1), 19);
        Check.same("the low one", x.passes(2), NONE);
        Check.noGuest("passes 3", () -> x.passes(3));
        Check.noGuest("passes -1", () -> x.passes(-1));
        Check.noGuest("passes most", () -> x.passes(Integer.MAX_VALUE));
        Check.noGuest("passes without guests", () -> new CarnivalRoad().passes(0));
        Check.yes("wire", x.wire(0, 8));
        Check.same("the first cell", x.passes(0), 0);
    }
}
