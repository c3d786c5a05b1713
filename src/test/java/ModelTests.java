import java.util.ArrayList;
import java.util.Arrays;
import java.util.List;
import java.util.regex.Matcher;
import java.util.regex.Pattern;

/** Many objects against plain models of the text, the rows and the run, written another way. */
public final class ModelTests {
    private static final int NONE = CarnivalRoad.NONE;
    private static final String[] WORDS = {"far", "ahead", "first", "last", "loud", "kind"};
    private static long seed = 20261119L;

    private ModelTests() {
    }

    public static void main(String[] args) {
        for (int i = 0; i < 3000; i++) {
            textAgainstModel();
        }
        for (int i = 0; i < 1500; i++) {
            rowsAgainstModel();
        }
        for (int i = 0; i < 400; i++) {
            runAgainstModel();
        }
        Check.close("ModelTests");
    }

    /** A number from 0 up to below n, the same ones at each start. */
    private static int any(int n) {
        seed = seed * 6364136223846793005L + 1442695040888963407L;
        return (int) ((seed >>> 33) % n);
    }

    private static int[][] comeGuests(CarnivalRoad x, int count) {
        int[][] guests = new int[count][];
        for (int g = 0; g < count; g++) {
            guests[g] = new int[] {any(5), 1 + any(5), any(10), 1 + any(9), any(3) == 0 ? any(10) : 9};
            Check.same("guest", x.guest(guests[g][0], guests[g][1], guests[g][2], guests[g][3], guests[g][4]), g);
        }
        return guests;
    }

    // ---- the text

    /** One piece after another, as the grammar asks; now and then one that it does not. */
    private static String anyText() {
        StringBuilder text = new StringBuilder();
        int bars = any(5) == 0 ? 9 + any(4) : any(4);
        for (int i = 0; i < bars; i++) {
            int word = any(5);
            piece(text, WORDS[word]);
            if (word < 2) {
                thing(text);
            }
            if (word < 4) {
                thing(text);
            }
            if (word == 0) {
                piece(text, "" + (1 + any(7)));
            }
            if (word == 4) {
                piece(text, "" + any(20));
            }
            piece(text, ";");
        }
        return text.length() > 400 ? text.substring(0, 400) : text.toString();
    }

    private static void thing(StringBuilder text) {
        if (any(2) == 0) {
            piece(text, "kind");
            piece(text, "" + any(12) / 2);
        } else {
            piece(text, "" + any(5));
        }
    }

    private static void piece(StringBuilder text, String due) {
        String[] odd = {"far", "kind", "x", "007", "8", "19", ";", ".", "", "\t", "\u00e9", "Far", "-"};
        String put = any(60) == 0 ? odd[any(odd.length)] : due;
        boolean joined = any(2) == 0 && text.length() > 0 && !put.isEmpty()
            && Character.isLetter(text.charAt(text.length() - 1)) != Character.isLetter(put.charAt(0));
        if (!joined) {
            text.append(any(4) == 0 ? "\n" : " ");
        }
        text.append(put);
    }

    private static final class Token {
        final String text;
        final int place;

        Token(String text, int place) {
            this.text = text;
            this.place = place;
        }
    }

    private static List<Token> tokensOf(String text) {
        List<Token> tokens = new ArrayList<>();
        Matcher m = Pattern.compile("[A-Za-z]+|[0-9]+|[^ \n]").matcher(text);
        while (m.find()) {
            tokens.add(new Token(m.group(), m.start()));
        }
        tokens.add(new Token("", text.length()));
        return tokens;
    }

    /** The bars (count), or minus the fault and its place as one number. */
    private static int readByModel(String text, int guests) {
        List<Token> tokens = tokensOf(text);
        int i = 0;
        int bars = 0;
        while (!tokens.get(i).text.isEmpty()) {
            int word = Arrays.asList(WORDS).indexOf(tokens.get(i).text);
            if (word < 0 || word == 5) {
                return -(1000 + tokens.get(i).place);
            }
            if (bars == 10) {
                return -(3000 + tokens.get(i).place);
            }
            String form = new String[] {"TTN;", "TT;", "T;", "T;", "L;"}[word];
            i++;
            for (int j = 0; j < form.length(); j++) {
                char due = form.charAt(j);
                int most = due == 'T' ? guests - 1 : due == 'N' ? 7 : 18;
                if (due == 'T' && tokens.get(i).text.equals("kind")) {
                    i++;
                    most = 4;
                }
                Token t = tokens.get(i);
                if (!t.text.matches(due == ';' ? ";" : "[0-9]{1,2}")) {
                    return -(1000 + t.place);
                }
                if (due != ';' && (Integer.parseInt(t.text) > most || due == 'N' && Integer.parseInt(t.text) == 0)) {
                    return -(2000 + t.place);
                }
                i++;
            }
            bars++;
        }
        return bars;
    }

    private static void textAgainstModel() {
        CarnivalRoad x = new CarnivalRoad();
        int count = any(7);
        comeGuests(x, count);
        String text = anyText();
        int due = readByModel(text, count);
        String shown = "'" + text + "'";
        Check.same("load " + shown, Check.load(x, text), due < 0 ? NONE : due);
        Check.same("fault of " + shown, x.fault(0), due < 0 ? -due / 1000 : 0);
        Check.same("its place in " + shown, x.fault(1), due < 0 ? -due % 1000 : NONE);
        Check.same("bars of " + shown, x.look(1), due < 0 ? 0 : due);
        Check.no("tape is empty", x.end(1));
    }

    // ---- the rows

    private static final class Bar {
        int word;
        int[] things = new int[2];
        int number;

        String text() {
            StringBuilder text = new StringBuilder(WORDS[word]);
            for (int i = 0; i < (word < 2 ? 2 : word < 4 ? 1 : 0); i++) {
                text.append(things[i] >= 8 ? " kind " + (things[i] - 8) : " " + things[i]);
            }
            return text.append(word == 0 || word == 4 ? " " + number : "").append(";").toString();
        }
    }

    private static Bar anyBar(int count) {
        Bar bar = new Bar();
        int kind = any(12);
        bar.word = kind < 4 ? 0 : kind < 8 ? 1 : kind == 8 ? 2 : kind == 9 ? 3 : 4;
        bar.things[0] = count == 0 || any(3) == 0 ? 8 + any(5) : any(count);
        bar.things[1] = count == 0 || any(3) == 0 ? 8 + any(5) : any(count);
        bar.number = bar.word == 0 ? 1 + any(3) : 10 + any(9);
        return bar;
    }

    private static boolean in(int thing, int g, int[][] guests) {
        return thing < 8 ? g == thing : guests[g][0] == thing - 8;
    }

    /** The pair of places that breaks the bar first, as ten times the lesser and the greater. */
    private static int brokenAt(Bar bar, int[] row, int[][] guests) {
        int n = row.length;
        if (bar.word == 2 || bar.word == 3) {
            int end = bar.word == 2 ? 0 : n - 1;
            return n == 0 ? 0 : in(bar.things[0], row[end], guests) ? NONE : 11 * end;
        }
        int first = NONE;
        for (int p = 0; p < n; p++) {
            for (int q = 0; q < n; q++) {
                boolean one = in(bar.things[0], row[p], guests);
                boolean two = in(bar.things[1], row[q], guests);
                boolean broken = p != q
                    && (bar.word == 0 && one && two && Math.abs(p - q) < bar.number
                    || bar.word == 1 && one && two && p > q
                    || bar.word == 4 && q == p + 1 && guests[row[p]][2] + guests[row[q]][2] > bar.number);
                int pair = 10 * Math.min(p, q) + Math.max(p, q);
                if (broken && (first == NONE || pair < first)) {
                    first = pair;
                }
            }
        }
        return first;
    }

    private static int horseAt(int[] row, int[][] guests) {
        int first = NONE;
        for (int p = 0; p < row.length; p++) {
            for (int q = Math.max(0, p - 2); q < Math.min(row.length, p + 3); q++) {
                int pair = 10 * Math.min(p, q) + Math.max(p, q);
                if (p != q && guests[row[p]][0] == 2 && guests[row[q]][2] > guests[row[p]][4]
                    && (first == NONE || pair < first)) {
                    first = pair;
                }
            }
        }
        return first;
    }

    /** Bar and places as one number of three digits (a horse's bar: 1000 and more). */
    private static int whyByModel(List<Bar> bars, int[] row, int[][] guests) {
        for (int b = 0; b < bars.size(); b++) {
            int at = brokenAt(bars.get(b), row, guests);
            if (at != NONE) {
                return 100 * b + at;
            }
        }
        int horse = horseAt(row, guests);
        return horse == NONE ? NONE : 1000 + horse;
    }

    private static boolean nextRow(int[] row) {
        int i = row.length - 2;
        while (i >= 0 && row[i] > row[i + 1]) {
            i--;
        }
        if (i < 0) {
            return false;
        }
        int j = row.length - 1;
        while (row[j] < row[i]) {
            j--;
        }
        int held = row[i];
        row[i] = row[j];
        row[j] = held;
        Arrays.sort(row, i + 1, row.length);
        return true;
    }

    private static int noiseByModel(int[] row, int[][] guests) {
        int sum = 0;
        for (int i = 0; i + 1 < row.length; i++) {
            sum += guests[row[i]][2] * guests[row[i + 1]][2];
        }
        return sum;
    }

    private static int[] rowOf(CarnivalRoad x) {
        int[] row = new int[x.look(0)];
        for (int i = 0; i < row.length; i++) {
            row[i] = x.place(i);
        }
        return row;
    }

    private static int packed(int[] row) {
        int bits = 0;
        for (int i = 0; i < row.length; i++) {
            bits |= row[i] << (4 * i);
        }
        return bits;
    }

    private static void whyIs(CarnivalRoad x, int due) {
        Check.same("why bar", x.why(0), due == NONE ? NONE : due / 100);
        Check.same("why lesser", x.why(1), due == NONE ? NONE : due / 10 % 10);
        Check.same("why greater", x.why(2), due == NONE ? NONE : due % 10);
    }

    private static void rowsAgainstModel() {
        CarnivalRoad x = new CarnivalRoad();
        int count = any(20) == 0 ? 8 : any(7);
        int[][] guests = comeGuests(x, count);
        List<Bar> bars = new ArrayList<>();
        StringBuilder text = new StringBuilder();
        int barCount = any(4) == 0 ? any(11) : any(4);
        for (int b = 0; b < barCount; b++) {
            bars.add(anyBar(count));
            text.append(bars.get(b).text());
        }
        Check.same("load " + text, Check.load(x, text.toString()), barCount);
        List<int[]> kept = new ArrayList<>();
        int laid = 0;
        int[] row = new int[count];
        for (int i = 0; i < count; i++) {
            row[i] = i;
        }
        do {
            if (whyByModel(bars, row, guests) == NONE) {
                kept.add(row.clone());
            }
            // an object answers for 512 calls alone
            if (laid < 60 && any(count < 8 ? 12 : 700) == 0) {
                laid++;
                Check.yes("lay", x.lay(packed(row)));
                whyIs(x, whyByModel(bars, row, guests));
            }
        } while (nextRow(row));
        Check.same("orders of " + text, x.orders(), kept.size());
        Check.no("pick beyond", x.pick(kept.size()));
        for (int i = 0; i < 5 && !kept.isEmpty(); i++) {
            int k = i == 0 ? kept.size() - 1 : any(kept.size());
            Check.yes("pick", x.pick(k));
            Check.same("row picked", packed(rowOf(x)), packed(kept.get(k)));
            Check.same("rank", x.rank(), k);
            Check.same("noise", x.noise(), noiseByModel(kept.get(k), guests));
        }
        int[] quietest = null;
        for (int[] one : kept) {
            if (quietest == null || noiseByModel(one, guests) < noiseByModel(quietest, guests)) {
                quietest = one;
            }
        }
        int before = packed(rowOf(x));
        Check.same("best", x.best(), quietest == null ? NONE : noiseByModel(quietest, guests));
        Check.same("row of best", packed(rowOf(x)), quietest == null ? before : packed(quietest));
    }

    // ---- the run

    /** A guest of the model: its cells are told by its head alone. */
    private static final class Walker {
        int g;
        int[] traits;
        int head = -1;
        int gone = 0;
        int still = 0;
        int came = NONE;
        int out = NONE;

        int tail() {
            return head - (traits[1] - 1);
        }

        int state() {
            return out != NONE ? 3 : head == -1 ? 0 : still > 0 ? 2 : 1;
        }
    }

    private static final class Model {
        int cells;
        int gap;
        int[] stands = new int[50];
        int minute = 0;
        List<Walker> all = new ArrayList<>();

        List<Walker> here() {
            List<Walker> list = new ArrayList<>(all);
            list.removeIf(w -> w.out != NONE);
            return list;
        }

        void step() {
            minute++;
            for (Walker w : here()) {
                List<Walker> left = here();
                int place = left.indexOf(w);
                boolean slow = w.traits[0] == 3 || w.traits[0] == 4;
                if (w.still > 0) {
                    w.still--;
                } else if ((!slow || minute % 2 == 0)
                    && (place == 0 || left.get(place - 1).tail() > w.head + 1 + gap)) {
                    w.head++;
                    w.gone++;
                    w.came = w.came == NONE ? minute : w.came;
                    if (w.head < cells) {
                        w.still += stands[w.head] * (w.traits[0] == 1 ? 2 : 1);
                    }
                    if (w.traits[0] == 4 && w.gone % 10 == 0) {
                        w.still += 3;
                    }
                    w.out = w.tail() >= cells ? minute : NONE;
                }
            }
        }

        Model copy() {
            Model m = new Model();
            m.cells = cells;
            m.gap = gap;
            m.stands = stands;
            m.minute = minute;
            for (Walker w : all) {
                Walker v = new Walker();
                v.g = w.g;
                v.traits = w.traits;
                v.head = w.head;
                v.gone = w.gone;
                v.still = w.still;
                v.came = w.came;
                v.out = w.out;
                m.all.add(v);
            }
            return m;
        }

        int end() {
            Model m = copy();
            while (!m.here().isEmpty()) {
                m.step();
            }
            return m.minute;
        }

        int alone() {
            int longest = 0;
            for (Walker w : all) {
                Model m = new Model();
                m.cells = cells;
                m.gap = gap;
                m.stands = stands;
                Walker v = new Walker();
                v.traits = w.traits;
                m.all.add(v);
                longest = Math.max(longest, m.end());
            }
            return longest;
        }
    }

    private static void runAgainstModel() {
        CarnivalRoad x = new CarnivalRoad();
        int count = 1 + any(8);
        int[][] guests = comeGuests(x, count);
        Model m = new Model();
        m.cells = 1 + any(50);
        m.gap = any(4);
        Check.yes("road", x.road(m.cells, m.gap));
        for (int i = any(6); i > 0; i--) {
            int cell = any(m.cells);
            m.stands[cell] = any(10);
            Check.yes("stand", x.stand(cell, m.stands[cell]));
        }
        for (int i = any(3); i > 0; i--) {
            int cell = any(m.cells);
            Check.yes("wire", x.wire(cell, 9));
        }
        int orders = x.orders();
        if (orders > 0) {
            Check.yes("pick", x.pick(any(orders)));
        }
        for (int g : rowOf(x)) {
            Walker w = new Walker();
            w.g = g;
            w.traits = guests[g];
            m.all.add(w);
        }
        Check.yes("begin", x.begin());
        for (int i = 0; i < 12; i++) {
            sameRun(x, m);
            if (any(6) == 0) {
                Walker w = m.all.get(any(count));
                Check.same("ill", x.ill(w.g) ? 1 : 0, w.out == NONE ? 1 : 0);
                w.out = w.out == NONE ? m.minute : w.out;
            }
            int minutes = any(3) == 0 ? 1 : any(any(4) == 0 ? 200 : 12);
            int gone = 0;
            while (gone < minutes && !m.here().isEmpty()) {
                m.step();
                gone++;
            }
            Check.same("run", x.run(minutes), gone);
        }
    }

    private static void sameRun(CarnivalRoad x, Model m) {
        Check.same("minute", x.minute(), m.minute);
        int[] owner = new int[m.cells];
        Arrays.fill(owner, NONE);
        int hole = 0;
        Walker ahead = null;
        int first = NONE;
        int last = NONE;
        for (Walker w : m.all) {
            int[] due = {w.head, w.tail(), w.state(), w.came, w.out};
            int what = any(5);
            Check.same("at " + what + " of guest " + w.g, x.at(w.g, what), due[what]);
            if (w.state() == 1 || w.state() == 2) {
                for (int cell = Math.max(0, w.tail()); cell <= Math.min(w.head, m.cells - 1); cell++) {
                    Check.same("nobody else", owner[cell], NONE);
                    owner[cell] = w.g;
                    last = cell == Math.max(0, w.tail()) ? cell : last;
                    first = Math.max(first, cell);
                }
                if (ahead != null) {
                    hole = Math.max(hole, ahead.tail() - w.head - 1);
                }
                ahead = w;
            }
        }
        int cell = any(m.cells);
        Check.same("who", x.who(cell), owner[cell]);
        Check.same("hole", x.hole(), hole);
        Check.same("rowLong", x.rowLong(), first == NONE ? 0 : first - last + 1);
        Check.same("ends", x.ends(0), m.end());
        Check.same("alone", x.ends(1), m.alone());
    }
}
