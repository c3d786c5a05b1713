/** The example of README.md answers what stands behind its calls there. */
public final class ReadmeTests {
    private ReadmeTests() {
    }

    public static void main(String[] args) {
        exampleAnswers();
        Check.close("ReadmeTests");
    }

    private static void exampleAnswers() {
        CarnivalRoad x = new CarnivalRoad();
        Check.same("a float", x.guest(0, 2, 3, 5, 0), 0);
        Check.same("a band", x.guest(1, 1, 9, 2, 0), 1);
        Check.same("feed", x.feed(0x66697273, 0x7420313b, 0x20202020, 0x20202020, 0x20202020), 20);
        Check.yes("end", x.end(8));
        Check.same("load", x.load(), 1);
        Check.same("why", x.why(0), 0);
        Check.same("orders", x.orders(), 1);
        Check.same("best", x.best(), 27);
        Check.row(x, 1, 0);
        Check.yes("road", x.road(12, 1));
        Check.yes("wire", x.wire(6, 5));
        Check.yes("stand", x.stand(4, 3));
        Check.yes("begin", x.begin());
        Check.same("run", x.run(10), 10);
        Check.same("head of the band", x.at(1, 0), 4);
        Check.same("state of the band", x.at(1, 2), 2);
        Check.same("hole", x.hole(), 1);
        Check.same("ends", x.ends(0), 25);
        Check.yes("ill", x.ill(1));
        Check.same("ends without the band", x.ends(0), 24);
    }
}
