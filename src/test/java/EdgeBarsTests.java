/**
 * The boundaries that Terms 1 and 2 name: guests, texts of bars, faults, rows. Above each
 * test stands the promise and the sentence that it holds.
 */
public final class EdgeBarsTests {
    private static final int NONE = CarnivalRoad.NONE;
    private static final int FLOAT = 0;
    private static final int BAND = 1;
    private static final int HORSE = 2;
    private static final int FOOT = 3;
    private static final int GIANT = 4;
    private static final String TEN = "loud 1;loud 1;loud 1;loud 1;loud 1;loud 1;loud 1;loud 1;loud 1;loud 1;";

    private EdgeBarsTests() {
    }

    public static void main(String[] args) {
        guestsAreNumberedAsTheyCome();
        lengthHasBounds();
        loudHasBounds();
        tallHasBounds();
        shyHasBounds();
        kindHasBounds();
        horseWithinTwoPlaces();
        horseAndALouderOne();
        horseAndAnotherGuest();
        horseAlone();
        textWithoutBars();
        eachWordHasItsForm();
        lettersStandTogether();
        wordsThatAreNone();
        digitsStandTogether();
        blanksAreTwo();
        blanksMayStandAnywhere();
        thingIsAGuestOrAKind();
        faultsFirstByPlace();
        faultsLeastAtOnePlace();
        faultAtTheEnd();
        faultOfWhatCannotStand();
        faultOfNoSuchGuest();
        faultOfAKindAboveFour();
        faultBehindFar();
        faultBehindLoud();
        faultOfTheEleventhBar();
        farAsManyPlacesAtLeast();
        farOfTwoThatAreNotTheSame();
        farOfBothWays();
        aheadOfEachOtherOne();
        firstIsOneOfIt();
        lastIsOneOfIt();
        loudAsMuchAtMost();
        loudOfNeighbours();
        nothingBarsOfAThingOfNone();
        firstAndLastOfAThingOfNone();
        rowsAreOrdered();
        rowIsInOrderAtFirst();
        noiseOverNeighbours();
        whyTheFirstBarByNumber();
        whyTheHorseBehindThemAll();
        whyTheFirstPairOfPlaces();
        whyThatPlaceTwice();
        whyWithoutGuests();
        Check.close("EdgeBarsTests");
    }

    /** Promise 2, Terms 1: "GUESTS 0 .. 7, numbered as they come". */
    private static void guestsAreNumberedAsTheyCome() {
        CarnivalRoad x = new CarnivalRoad();
        for (int g = 0; g < 8; g++) {
            Check.same("guest", x.guest(FLOAT, 1, 0, 1, 0), g);
            Check.same("guests", x.look(0), g + 1);
        }
        Check.same("the ninth", x.guest(FLOAT, 1, 0, 1, 0), NONE);
        Check.same("guests", x.look(0), 8);
    }

    /** One of the five numbers of a guest: what is within its bounds comes, what is beside them not. */
    private static void bounds(int which, int least, int most) {
        CarnivalRoad x = new CarnivalRoad();
        int[] none = {least - 1, most + 1, Integer.MIN_VALUE, Integer.MAX_VALUE, 256 + least};
        int[] fine = {least, most, least + 1, most - 1};
        for (int number : none) {
            Check.same("guest with " + number + " as number " + which, come(x, which, number), NONE);
        }
        Check.same("guests", x.look(0), 0);
        for (int i = 0; i < fine.length; i++) {
            Check.same("guest with " + fine[i] + " as number " + which, come(x, which, fine[i]), i);
            Check.same("of", x.of(i, which), fine[i]);
        }
    }

    private static int come(CarnivalRoad x, int which, int number) {
        int[] traits = {FLOAT, 1, 0, 1, 0};
        traits[which] = number;
        return x.guest(traits[0], traits[1], traits[2], traits[3], traits[4]);
    }

    /** Promise 2, Terms 1: "LENGTH 1 .. 5 cells". */
    private static void lengthHasBounds() {
        bounds(1, 1, 5);
    }

    /** Promise 2, Terms 1: "LOUD 0 .. 9". */
    private static void loudHasBounds() {
        bounds(2, 0, 9);
    }

    /** Promise 2, Terms 1: "TALL 1 .. 9". */
    private static void tallHasBounds() {
        bounds(3, 1, 9);
    }

    /** Promise 2, Terms 1: "SHY 0 .. 9". */
    private static void shyHasBounds() {
        bounds(4, 0, 9);
    }

    /** Promise 2, Terms 1: "a KIND: 0 FLOAT, 1 BAND, 2 HORSE, 3 FOOT, 4 GIANT". */
    private static void kindHasBounds() {
        bounds(0, 0, 4);
    }

    /** Promise 11, Terms 1: "A HORSE can't stand within two places of another GUEST that is LOUDER than its SHY." */
    private static void horseWithinTwoPlaces() {
        CarnivalRoad x = Check.with(HORSE, 1, 0, 1, 3, FLOAT, 1, 4, 1, 0, FLOAT, 1, 3, 1, 0, FLOAT, 1, 3, 1, 0);
        int[][] broken = {{0, 1, 2, 3}, {2, 0, 3, 1}, {1, 0, 2, 3}, {1, 2, 0, 3}, {2, 3, 0, 1}};
        for (int[] row : broken) {
            Check.lay(x, row);
            Check.same("one or two places apart", x.rank(), NONE);
            Check.same("why", x.why(0), 10);
        }
        Check.lay(x, 0, 2, 3, 1);
        Check.same("three places ahead", x.rank(), 0);
        Check.same("why", x.why(0), NONE);
        Check.lay(x, 1, 2, 3, 0);
        Check.same("three places behind", x.rank(), 2);
        Check.same("orders", x.orders(), 4);
    }

    /** Promise 11, Terms 1: "LOUDER than its SHY": as loud as it is not louder. */
    private static void horseAndALouderOne() {
        for (int shy = 0; shy <= 9; shy++) {
            CarnivalRoad x = Check.with(HORSE, 1, 0, 1, shy, FLOAT, 1, shy, 1, 0);
            Check.same("as loud as shy " + shy, x.orders(), 2);
            if (shy < 9) {
                CarnivalRoad y = Check.with(HORSE, 1, 0, 1, shy, FLOAT, 1, shy + 1, 1, 0);
                Check.same("louder than shy " + shy, y.orders(), 0);
            }
        }
    }

    /** Promise 11, Terms 1: "another GUEST": not the horse itself, and any kind, a horse too. */
    private static void horseAndAnotherGuest() {
        for (int kind = FLOAT; kind <= GIANT; kind++) {
            CarnivalRoad x = Check.with(HORSE, 1, 9, 1, 4, kind, 1, 5, 1, 9);
            Check.same("kind " + kind + " beside a horse", x.orders(), 0);
            CarnivalRoad y = Check.with(FLOAT, 1, 9, 1, 0, kind, 1, 0, 1, 0);
            Check.same("kind " + kind + " beside a loud one", y.orders(), kind == HORSE ? 0 : 2);
        }
    }

    /** Promise 11, Terms 1: "another GUEST": one that stands alone, or beside quiet ones, keeps it. */
    private static void horseAlone() {
        Check.same("alone", Check.with(HORSE, 1, 9, 1, 0).orders(), 1);
        Check.same("its own LOUD", Check.with(HORSE, 1, 9, 1, 0, FLOAT, 1, 0, 1, 0).orders(), 2);
    }

    /** Promise 6, Terms 1: "TEXT = {BAR}": none at all is a text too. */
    private static void textWithoutBars() {
        Check.fine(Check.floats(1), 0, "");
        Check.fine(Check.floats(1), 0, " ");
        Check.fine(Check.floats(1), 0, "\n");
        Check.fine(new CarnivalRoad(), 0, " \n \n");
    }

    /** Promise 6, Terms 1: "BAR = far THING THING NUMBER ; | ahead THING THING ; | first THING ; | ..". */
    private static void eachWordHasItsForm() {
        String[] bars = {"far 0 1 2;", "ahead 0 1;", "first 0;", "last 1;", "loud 9;",
            "far kind 0 kind 4 7;", "ahead kind 1 1;", "first kind 2;", "last kind 3;"};
        for (String bar : bars) {
            Check.fine(Check.floats(1, 2), 1, bar);
            // without the ; that ends it, and with another ; or a number behind it
            int end = bar.length();
            Check.fault(Check.floats(1, 2), 1, end - 1, bar.substring(0, end - 1));
            Check.fault(Check.floats(1, 2), 1, end, bar + ";");
            Check.fault(Check.floats(1, 2), 1, end, bar + "1");
            Check.fault(Check.floats(1, 2), 1, end, bar + "kind 1;");
            Check.fault(Check.floats(1, 2), 1, end, bar.substring(0, end - 1) + " 1;");
        }
        Check.fault(Check.floats(1, 2), 1, 0, "kind 0;");
        Check.fault(Check.floats(1, 2), 1, 5, "loud kind 1;");
        Check.fault(Check.floats(1, 2), 1, 8, "far 0 1 kind 2;");
    }

    /** Promise 7, Terms 1: "TOKENS: letters as many as stand together". */
    private static void lettersStandTogether() {
        Check.fine(Check.floats(1), 1, "first0;");
        Check.fine(Check.floats(1), 1, "first kind 0;");
        Check.fault(Check.floats(1), 1, 0, "firstkind 0;");
        Check.fault(Check.floats(1), 1, 6, "first kindkind 0;");
        Check.fine(Check.floats(1), 2, "loud 1;last kind0;");
        Check.fault(Check.floats(1), 1, 7, "loud 1;lastkind0;");
        Check.fault(Check.floats(1), 1, 0, "fi rst 0;");
        Check.fault(Check.floats(1), 1, 0, "fi\nrst 0;");
    }

    /** Promise 7, Terms 1: "(WORDS far ahead first last loud kind; others are none)". */
    private static void wordsThatAreNone() {
        String[] words = {"far", "ahead", "first", "last", "loud"};
        for (String word : words) {
            String rest = (word.equals("far") ? " 0 0 1" : word.equals("ahead") ? " 0 0" : " 0") + ";";
            Check.fine(Check.floats(1), 1, word + rest);
            Check.fault(Check.floats(1), 1, 0, word.substring(1) + rest);
            Check.fault(Check.floats(1), 1, 0, word.substring(0, word.length() - 1) + rest);
            Check.fault(Check.floats(1), 1, 0, word + word + rest);
            Check.fault(Check.floats(1), 1, 0, word + "s" + rest);
            Check.fault(Check.floats(1), 1, 0, word.toUpperCase() + rest);
            Check.fault(Check.floats(1), 1, 0, word + "Z" + rest);
            Check.fault(Check.floats(1), 1, 0, word + "A" + rest);
            Check.fault(Check.floats(1), 1, 0, "z" + word + rest);
        }
        Check.fault(Check.floats(1), 1, 6, "first kinds 0;");
        Check.fault(Check.floats(1), 1, 6, "first kin 0;");
        Check.fault(Check.floats(1), 1, 6, "first Kind 0;");
    }

    /** Promise 7, Terms 1: "digits as many as stand together (NUMBERS of one or two; longer are none)". */
    private static void digitsStandTogether() {
        Check.fine(Check.floats(1), 1, "first 0;");
        Check.fine(Check.floats(1), 1, "first 00;");
        Check.fault(Check.floats(1), 1, 6, "first 000;");
        Check.fault(Check.floats(1), 1, 8, "first 0 0;");
        Check.fine(Check.floats(1), 1, "loud 18;");
        Check.fine(Check.floats(1), 1, "loud 09;");
        Check.fault(Check.floats(1), 1, 5, "loud 009;");
        Check.fault(Check.floats(1), 1, 7, "loud 1 8;");
        Check.fault(Check.floats(1), 1, 8, "far 0 0 001;");
        Check.fault(Check.floats(1), 1, 6, "far 0 000 1;");
        Check.fault(Check.floats(1), 1, 11, "first kind 004;");
        // so long a one that its value would run round to a small one
        Check.fault(Check.floats(1), 1, 6, "first 4294967296;");
        Check.fault(Check.floats(1), 1, 6, "first 1000;");
        Check.fault(Check.floats(1), 1, 5, "loud 00000000000000000000000000000000000000000001;");
        // digits and letters end one another
        Check.fine(Check.floats(1), 2, "first0;loud9;");
        Check.fault(Check.floats(1), 1, 7, "first 0x;");
    }

    /** Promise 7, Terms 1: "Blanks (32, 10) between": no other byte is one, of all 256. */
    private static void blanksAreTwo() {
        for (int sign = 0; sign < 256; sign++) {
            CarnivalRoad x = Check.floats(1);
            String text = "first" + (char) sign + "0;";
            boolean letter = sign >= 'a' && sign <= 'z' || sign >= 'A' && sign <= 'Z';
            if (sign == 32 || sign == 10 || sign == '0') {
                Check.fine(x, 1, text);
            } else if (sign >= '1' && sign <= '9') {
                Check.fault(x, 2, 5, text);
            } else {
                Check.fault(x, 1, letter ? 0 : 5, text);
            }
        }
    }

    /** Promise 7, Terms 1: "Blanks (32, 10) between": none, one or many, at both ends of the text too. */
    private static void blanksMayStandAnywhere() {
        Check.fine(Check.floats(1, 2), 2, "far kind 0 1 2;first 0;");
        Check.fine(Check.floats(1, 2), 2, "far kind0 1 2;first0;");
        Check.fine(Check.floats(1, 2), 2, " \n far\n\nkind  0 \n 1\n2 ; \nfirst\n0\n;\n ");
        Check.fault(Check.floats(1, 2), 1, 7, "  \n far;");
    }

    /** Promise 11, Terms 1: "A THING is the GUEST of that number, or all of that KIND." */
    private static void thingIsAGuestOrAKind() {
        CarnivalRoad x = Check.with(BAND, 1, 0, 1, 0, FLOAT, 1, 0, 1, 0, BAND, 1, 0, 1, 0, FOOT, 1, 0, 1, 0);
        Check.fine(x, 1, "first 1;");
        Check.same("guest 1 first", x.orders(), 6);
        Check.fine(x, 1, "first kind 1;");
        Check.same("a band first", x.orders(), 12);
        Check.fine(x, 1, "ahead kind 1 3;");
        Check.same("both bands ahead of guest 3", x.orders(), 8);
        Check.fine(x, 1, "ahead kind 3 kind 1;");
        Check.same("who goes on foot ahead of both bands", x.orders(), 8);
        Check.fine(x, 1, "ahead 3 1;");
        Check.same("guest 3 ahead of guest 1", x.orders(), 12);
    }

    /** Promise 7, Terms 1: "FAULTS, the first by its place". */
    private static void faultsFirstByPlace() {
        Check.fault(Check.floats(1), 2, 4, "far 9 x 9;");
        Check.fault(Check.floats(1), 2, 6, "first 1 ; x");
        Check.fault(Check.floats(1), 1, 0, "x first 9;");
        Check.fault(Check.floats(1), 1, 6, "far 0 x 9;");
        Check.fault(Check.floats(1), 2, 8, "far 0 0 9 9;");
        Check.fault(Check.floats(1), 2, 4, "far 1 1 9;");
        Check.fault(Check.floats(1), 2, 5, "loud 19;" + TEN + TEN);
        Check.fault(Check.floats(1), 1, 63, TEN.substring(0, 63) + "x" + TEN);
        Check.fault(Check.floats(1), 3, 70, TEN + "loud 19;");
        Check.fault(Check.floats(1), 3, 70, TEN + "loud x;");
    }

    /** Promise 7, Terms 1: "at one place the least". */
    private static void faultsLeastAtOnePlace() {
        // what can't begin a bar behind ten of them is both no bar and the eleventh
        Check.fault(Check.floats(1), 1, 70, TEN + "x");
        Check.fault(Check.floats(1), 1, 70, TEN + "kind 1;");
        Check.fault(Check.floats(1), 1, 70, TEN + ";");
        Check.fault(Check.floats(1), 1, 70, TEN + "99");
        // a number too high where no number can stand
        Check.fault(Check.floats(1), 1, 8, "first 0 99;");
        Check.fault(Check.floats(1), 1, 6, "first 999;");
    }

    /** Promise 7, Terms 1: "1 what can't stand there (the end: the text's length)". */
    private static void faultAtTheEnd() {
        String text = "far 0 kind 1 7;";
        int[] tokens = {3, 5, 10, 12, 14};
        for (int cut : tokens) {
            Check.fault(Check.floats(1), 1, cut, text.substring(0, cut));
            Check.fault(Check.floats(1), 1, cut + 2, text.substring(0, cut) + " \n");
        }
        Check.fine(Check.floats(1), 1, text);
        StringBuilder long400 = new StringBuilder("first 0");
        while (long400.length() < 400) {
            long400.append(' ');
        }
        Check.fault(Check.floats(1), 1, 400, long400.toString());
        long400.setCharAt(399, ';');
        Check.fine(Check.floats(1), 1, long400.toString());
        long400.setCharAt(399, 'x');
        Check.fault(Check.floats(1), 1, 399, long400.toString());
        // a number and a word that end with the tape
        long400.setCharAt(6, ' ');
        long400.setCharAt(399, '0');
        Check.fault(Check.floats(1), 1, 400, long400.toString());
        long400.replace(396, 400, "kind");
        Check.fault(Check.floats(1), 1, 400, long400.toString());
    }

    /** Promise 7, Terms 1: "1 what can't stand there". */
    private static void faultOfWhatCannotStand() {
        String[] odd = {"x", "far", "kind", "last", "123", ".", "-", "\u00e9", "\u0000"};
        for (String token : odd) {
            Check.fault(Check.floats(1), 1, 8, "first 0 " + token + ";");
        }
        Check.fault(Check.floats(1), 1, 6, "first -1;");
        Check.fault(Check.floats(1), 1, 6, "first ;");
        Check.fault(Check.floats(1), 1, 11, "first kind ;");
        Check.fault(Check.floats(1), 1, 11, "first kind kind 0;");
    }

    /** Promise 7, Terms 1: "2 (at the NUMBER) no such GUEST". */
    private static void faultOfNoSuchGuest() {
        for (int count = 0; count <= 8; count++) {
            CarnivalRoad x = Check.floats(new int[count]);
            Check.fault(x, 2, 6, "first " + count + ";");
            Check.fault(x, 2, 5, "last " + count + ";");
            Check.fault(x, 2, 5, "last 99;");
            if (count > 0) {
                Check.fine(x, 1, "first " + (count - 1) + ";");
                Check.fine(x, 1, "far " + (count - 1) + " 0 1;");
                Check.fault(x, 2, 4, "far " + count + " 0 1;");
                Check.fault(x, 2, 6, "far 0 " + count + " 1;");
                Check.fault(x, 2, 6, "ahead " + count + " 0;");
                Check.fault(x, 2, 8, "ahead 0 " + count + ";");
            }
        }
    }

    /** Promise 7, Terms 1: "2 (at the NUMBER) .. a KIND above 4". */
    private static void faultOfAKindAboveFour() {
        for (int kind = 0; kind <= 4; kind++) {
            Check.fine(new CarnivalRoad(), 1, "first kind " + kind + ";");
            Check.fine(new CarnivalRoad(), 1, "far kind 0 kind " + kind + " 1;");
        }
        Check.fault(new CarnivalRoad(), 2, 11, "first kind 5;");
        Check.fault(new CarnivalRoad(), 2, 10, "last kind 99;");
        Check.fault(new CarnivalRoad(), 2, 9, "far kind 5 kind 0 1;");
        Check.fault(new CarnivalRoad(), 2, 16, "far kind 0 kind 5 1;");
        Check.fault(new CarnivalRoad(), 2, 18, "ahead kind 0 kind 5;");
        // guests 5 .. 7 are there, kinds 5 .. 7 are not
        Check.fault(Check.floats(new int[8]), 2, 11, "first kind 7;");
        Check.fine(Check.floats(new int[8]), 1, "first 7;");
    }

    /** Promise 7, Terms 1: "2 (at the NUMBER) .. behind far one that is not 1 .. 7". */
    private static void faultBehindFar() {
        for (int places = 1; places <= 7; places++) {
            Check.fine(Check.floats(1), 1, "far 0 0 " + places + ";");
        }
        int[] none = {0, 8, 9, 10, 71, 99};
        for (int places : none) {
            Check.fault(Check.floats(1), 2, 8, "far 0 0 " + places + ";");
        }
        Check.fault(Check.floats(1), 2, 8, "far 0 0 00;");
        Check.fine(Check.floats(1), 1, "far 0 0 07;");
    }

    /** Promise 7, Terms 1: "2 (at the NUMBER) .. behind loud one above 18". */
    private static void faultBehindLoud() {
        for (int loud = 0; loud <= 18; loud++) {
            Check.fine(new CarnivalRoad(), 1, "loud " + loud + ";");
        }
        Check.fault(new CarnivalRoad(), 2, 5, "loud 19;");
        Check.fault(new CarnivalRoad(), 2, 5, "loud 99;");
    }

    /** Promise 7, Terms 1: "3 (at the first WORD) the 11th BAR". */
    private static void faultOfTheEleventhBar() {
        Check.fine(Check.floats(1), 10, TEN);
        Check.fine(Check.floats(1), 10, TEN + " \n ");
        String[] words = {"far", "ahead", "first", "last", "loud"};
        for (String word : words) {
            Check.fault(Check.floats(1), 3, 70, TEN + word + " 0 0 1;");
            Check.fault(Check.floats(1), 3, 72, TEN + "\n " + word);
        }
        Check.fault(Check.floats(1), 3, 70, TEN + TEN + TEN + TEN + TEN);
    }

    /** Promise 11, 16, Terms 1: "two that are not the same stand as many places apart at least". */
    private static void farAsManyPlacesAtLeast() {
        CarnivalRoad x = Check.floats(new int[8]);
        for (int number = 1; number <= 7; number++) {
            Check.fine(x, 1, "far 0 7 " + number + ";");
            for (int apart = 1; apart <= 7; apart++) {
                int[] row = {7, 1, 2, 3, 4, 5, 6, 0};
                int[] swapped = {7, 1, 2, 3, 4, 5, 6, 0};
                swapped[apart] = 0;
                swapped[7] = row[apart];
                Check.lay(x, swapped);
                Check.same(apart + " apart, far " + number, x.why(0), apart >= number ? NONE : 0);
            }
        }
        Check.same("orders", x.orders(), 2 * 720);
    }

    /** Promise 11, Terms 1: "of the first THING and of the second one, two that are not the same". */
    private static void farOfTwoThatAreNotTheSame() {
        CarnivalRoad x = Check.with(BAND, 1, 0, 1, 0, FLOAT, 1, 0, 1, 0, BAND, 1, 0, 1, 0);
        Check.fine(x, 1, "far 1 1 7;");
        Check.same("one of itself", x.orders(), 6);
        Check.fine(x, 1, "far kind 0 1 7;");
        Check.same("one of its kind of which it is the only one", x.orders(), 6);
        Check.fine(x, 1, "far kind 1 kind 1 2;");
        Check.same("two of one kind", x.orders(), 2);
        Check.fine(x, 1, "far 0 kind 1 2;");
        Check.same("one of its kind", x.orders(), 2);
        Check.fine(x, 1, "far 0 kind 1 3;");
        Check.same("one of its kind, too far", x.orders(), 0);
    }

    /** Promise 11, Terms 1: "stand as many places apart": whoever of the two is ahead. */
    private static void farOfBothWays() {
        CarnivalRoad x = Check.floats(0, 0, 0);
        Check.fine(x, 1, "far 0 2 2;");
        Check.same("orders", x.orders(), 2);
        Check.lay(x, 2, 1, 0);
        Check.same("rank", x.rank(), 1);
        Check.lay(x, 2, 0, 1);
        Check.same("rank", x.rank(), NONE);
    }

    /** Promise 11, Terms 1: "each of the first stands ahead of each other one of the second". */
    private static void aheadOfEachOtherOne() {
        CarnivalRoad x = Check.with(BAND, 1, 0, 1, 0, FLOAT, 1, 0, 1, 0, BAND, 1, 0, 1, 0);
        Check.fine(x, 1, "ahead 0 0;");
        Check.same("not of itself", x.orders(), 6);
        Check.fine(x, 1, "ahead 0 kind 1;");
        Check.same("of the other one of its kind", x.orders(), 3);
        Check.fine(x, 1, "ahead kind 1 0;");
        Check.same("the other one ahead of it", x.orders(), 3);
        Check.fine(x, 1, "ahead kind 1 kind 1;");
        Check.same("each of two ahead of the other", x.orders(), 0);
        Check.fine(x, 1, "ahead kind 0 kind 0;");
        Check.same("one of its kind", x.orders(), 6);
        Check.fine(x, 1, "ahead kind 1 1;");
        Check.same("each of the first", x.orders(), 2);
        Check.fine(x, 1, "ahead 1 kind 1;");
        Check.same("each of the second", x.orders(), 2);
    }

    /** Promise 11, Terms 1: "first, last: the first (last) of the row is one of it." */
    private static void firstIsOneOfIt() {
        CarnivalRoad x = Check.with(BAND, 1, 0, 1, 0, FLOAT, 1, 0, 1, 0, BAND, 1, 0, 1, 0);
        Check.fine(x, 1, "first 2;");
        Check.same("orders", x.orders(), 2);
        Check.lay(x, 2, 0, 1);
        Check.same("first", x.rank(), 0);
        Check.lay(x, 0, 2, 1);
        Check.same("second", x.rank(), NONE);
        Check.fine(x, 1, "first kind 1;");
        Check.same("one of two", x.orders(), 4);
        CarnivalRoad y = Check.floats(3);
        Check.fine(y, 1, "first 0;");
        Check.same("the only one", y.orders(), 1);
    }

    /** Promise 11, Terms 1: "first, last: the first (last) of the row is one of it." */
    private static void lastIsOneOfIt() {
        CarnivalRoad x = Check.with(BAND, 1, 0, 1, 0, FLOAT, 1, 0, 1, 0, BAND, 1, 0, 1, 0);
        Check.fine(x, 1, "last 0;");
        Check.same("orders", x.orders(), 2);
        Check.lay(x, 2, 1, 0);
        Check.same("last", x.rank(), 1);
        Check.lay(x, 2, 0, 1);
        Check.same("last but one", x.rank(), NONE);
        Check.fine(x, 1, "last kind 1;");
        Check.same("one of two", x.orders(), 4);
        CarnivalRoad y = Check.floats(3);
        Check.fine(y, 2, "last 0;first 0;");
        Check.same("the only one is first and last", y.orders(), 1);
    }

    /** Promise 11, Terms 1: "loud: of neighbours LOUD together is as much at most." */
    private static void loudAsMuchAtMost() {
        for (int loud = 0; loud <= 18; loud++) {
            CarnivalRoad x = Check.floats(loud / 2, loud - loud / 2);
            Check.fine(x, 1, "loud " + loud + ";");
            Check.same("as much as " + loud, x.orders(), 2);
            if (loud > 0) {
                Check.fine(x, 1, "loud " + (loud - 1) + ";");
                Check.same("more than " + (loud - 1), x.orders(), 0);
            }
        }
    }

    /** Promise 11, Terms 1: "of neighbours": two with one between are none. */
    private static void loudOfNeighbours() {
        CarnivalRoad x = Check.floats(9, 0, 9);
        Check.fine(x, 1, "loud 9;");
        Check.same("orders", x.orders(), 2);
        Check.same("rank", x.rank(), 0);
        Check.fine(x, 1, "loud 8;");
        Check.same("orders", x.orders(), 0);
        CarnivalRoad y = Check.floats(9);
        Check.fine(y, 1, "loud 0;");
        Check.same("one alone has no neighbour", y.orders(), 1);
    }

    /** Promise 11, Terms 1: "A THING of which there is none bars nothing". */
    private static void nothingBarsOfAThingOfNone() {
        CarnivalRoad x = Check.floats(1, 2, 3);
        String[] bars = {"far kind 1 0 7;", "far 0 kind 1 7;", "far kind 1 kind 2 7;", "ahead kind 1 0;",
            "ahead 0 kind 1;", "ahead kind 3 kind 4;"};
        for (String bar : bars) {
            Check.fine(x, 1, bar);
            Check.same("orders of '" + bar + "'", x.orders(), 6);
            Check.why(x, NONE, NONE, NONE);
        }
        CarnivalRoad y = new CarnivalRoad();
        Check.fine(y, 3, "far kind 0 kind 0 7;ahead kind 0 kind 0;loud 0;");
        Check.same("orders without guests", y.orders(), 1);
        Check.same("rank without guests", y.rank(), 0);
        Check.why(y, NONE, NONE, NONE);
    }

    /** Promise 11, Terms 1: "but first and last can't be kept then". */
    private static void firstAndLastOfAThingOfNone() {
        String[] bars = {"first kind 1;", "last kind 1;", "first kind 1;last kind 1;"};
        for (String bar : bars) {
            CarnivalRoad x = Check.floats(1, 2, 3);
            Check.same("load", Check.load(x, bar), bar.length() > 20 ? 2 : 1);
            Check.same("orders of '" + bar + "'", x.orders(), 0);
            Check.same("rank", x.rank(), NONE);
            Check.same("best", x.best(), NONE);
            Check.no("pick", x.pick(0));
            CarnivalRoad y = new CarnivalRoad();
            Check.same("load", Check.load(y, bar), bar.length() > 20 ? 2 : 1);
            Check.same("orders without guests of '" + bar + "'", y.orders(), 0);
            Check.same("rank", y.rank(), NONE);
            // one of it comes: the bar can be kept
            Check.same("guest", x.guest(BAND, 1, 0, 1, 0), 3);
            Check.same("orders", x.orders(), bar.length() > 20 ? 0 : 6);
            Check.same("guest", y.guest(BAND, 1, 0, 1, 0), 0);
            Check.same("orders", y.orders(), 1);
        }
    }

    /** Promise 12, Terms 2: "rows are ordered by their first GUESTS, then the second ones". */
    private static void rowsAreOrdered() {
        CarnivalRoad x = Check.floats(1, 2, 3, 4);
        int before = NONE;
        for (int k = 0; k < 24; k++) {
            Check.yes("pick", x.pick(k));
            int row = ((x.place(0) * 8 + x.place(1)) * 8 + x.place(2)) * 8 + x.place(3);
            Check.yes("behind the one before", row > before);
            before = row;
        }
        Check.row(x, 3, 2, 1, 0);
        Check.yes("pick", x.pick(0));
        Check.row(x, 0, 1, 2, 3);
        Check.yes("pick", x.pick(6));
        Check.row(x, 1, 0, 2, 3);
    }

    /** Promise 10, Terms 2: "THE ROW is the numbers in order at first, and whenever a GUEST comes." */
    private static void rowIsInOrderAtFirst() {
        CarnivalRoad x = new CarnivalRoad();
        Check.row(x);
        for (int g = 0; g < 8; g++) {
            Check.same("guest", x.guest(FLOAT, 1, 0, 1, 0), g);
            for (int i = 0; i <= g; i++) {
                Check.same("place " + i, x.place(i), i);
            }
            Check.same("place behind all", x.place(g + 1), NONE);
            int[] back = new int[g + 1];
            for (int i = 0; i <= g; i++) {
                back[i] = g - i;
            }
            Check.lay(x, back);
            Check.same("place 0", x.place(0), g);
        }
        Check.same("the ninth does not come", x.guest(FLOAT, 1, 0, 1, 0), NONE);
        Check.row(x, 7, 6, 5, 4, 3, 2, 1, 0);
    }

    /** Promise 15, Terms 2: "NOISE: the sum, over neighbours, of LOUD times LOUD." */
    private static void noiseOverNeighbours() {
        Check.same("none", new CarnivalRoad().noise(), 0);
        Check.same("one", Check.floats(9).noise(), 0);
        Check.same("two", Check.floats(9, 8).noise(), 72);
        Check.same("eight", Check.floats(9, 9, 9, 9, 9, 9, 9, 9).noise(), 567);
        CarnivalRoad x = Check.floats(2, 3, 5);
        Check.same("three", x.noise(), 21);
        Check.lay(x, 1, 0, 2);
        Check.same("three", x.noise(), 16);
    }

    /** Promise 16, Terms 2: "the first BAR by number .. that is broken". */
    private static void whyTheFirstBarByNumber() {
        CarnivalRoad x = Check.floats(1, 2, 3);
        Check.fine(x, 3, "ahead 0 1;ahead 2 1;ahead 1 0;");
        Check.why(x, 1, 1, 2);
        Check.lay(x, 2, 1, 0);
        Check.why(x, 0, 1, 2);
        Check.lay(x, 0, 2, 1);
        Check.why(x, 2, 0, 2);
        Check.fine(x, 10, "loud 5;loud 5;loud 5;loud 5;loud 5;loud 5;loud 5;loud 5;loud 5;loud 4;");
        Check.why(x, 9, 1, 2);
    }

    /** Promise 16, Terms 2: "(behind them all, 10: a HORSE's)". */
    private static void whyTheHorseBehindThemAll() {
        CarnivalRoad x = Check.with(HORSE, 1, 0, 1, 0, FLOAT, 1, 9, 1, 0);
        Check.why(x, 10, 0, 1);
        Check.fine(x, 1, "loud 9;");
        Check.why(x, 10, 0, 1);
        Check.fine(x, 10, "loud 9;loud 9;loud 9;loud 9;loud 9;loud 9;loud 9;loud 9;loud 9;first 0;");
        Check.why(x, 10, 0, 1);
        Check.fine(x, 10, "loud 9;loud 9;loud 9;loud 9;loud 9;loud 9;loud 9;loud 9;loud 9;first 1;");
        Check.why(x, 9, 0, 0);
    }

    /** Promise 16, Terms 2: "with the first pair of places (the lesser ahead ..) that breaks it". */
    private static void whyTheFirstPairOfPlaces() {
        CarnivalRoad x = Check.floats(1, 2, 3, 4);
        Check.fine(x, 1, "ahead 3 0;");
        Check.why(x, 0, 0, 3);
        Check.fine(x, 1, "far 3 0 7;");
        Check.why(x, 0, 0, 3);
        Check.fine(x, 1, "far kind 0 kind 0 2;");
        Check.why(x, 0, 0, 1);
        Check.fine(x, 1, "ahead kind 0 1;");
        Check.why(x, 0, 1, 2);
        Check.fine(x, 1, "loud 6;");
        Check.why(x, 0, 2, 3);
        CarnivalRoad y = Check.with(HORSE, 1, 0, 1, 8, HORSE, 1, 0, 1, 0, FLOAT, 1, 9, 1, 0);
        Check.why(y, 10, 0, 2);
        Check.lay(y, 1, 0, 2);
        Check.why(y, 10, 0, 2);
        Check.lay(y, 1, 2, 0);
        Check.why(y, 10, 0, 1);
        CarnivalRoad z = Check.with(BAND, 1, 0, 1, 0, FOOT, 1, 0, 1, 0, FOOT, 1, 0, 1, 0, BAND, 1, 0, 1, 0);
        Check.fine(z, 1, "far kind 1 kind 3 2;");
        Check.why(z, 0, 0, 1);
        Check.lay(z, 1, 0, 3, 2);
        Check.why(z, 0, 0, 1);
        Check.fine(z, 1, "ahead kind 1 kind 3;");
        Check.why(z, 0, 0, 1);
        Check.lay(z, 0, 1, 2, 3);
        Check.why(z, 0, 1, 3);
    }

    /** Promise 16, Terms 2: "first, last: that place twice". */
    private static void whyThatPlaceTwice() {
        for (int count = 2; count <= 8; count++) {
            CarnivalRoad x = Check.floats(new int[count]);
            Check.fine(x, 1, "first 1;");
            Check.why(x, 0, 0, 0);
            Check.fine(x, 1, "last 0;");
            Check.why(x, 0, count - 1, count - 1);
        }
        CarnivalRoad one = Check.floats(1);
        Check.fine(one, 1, "last kind 2;");
        Check.why(one, 0, 0, 0);
    }

    /** Promise 16, Terms 2: "0 without GUESTS". */
    private static void whyWithoutGuests() {
        CarnivalRoad x = new CarnivalRoad();
        Check.fine(x, 1, "first kind 0;");
        Check.why(x, 0, 0, 0);
        Check.fine(x, 2, "loud 0;last kind 0;");
        Check.why(x, 1, 0, 0);
        Check.fine(x, 1, "loud 0;");
        Check.why(x, NONE, NONE, NONE);
    }
}
