import java.util.ArrayList;
import java.util.Arrays;
import java.util.List;

/**
 * Calls of all kinds in any order, with fit and unfit numbers, each answer held against a plain
 * model of the whole object (the same calls each time): what one call leaves behind for others.
 */
public final class WildTests {
    private static final String NO_GUEST = "no guest";
    private static final String NO_RUN = "no run";
    private static final String[] CALLS = {
        "guest", "of", "feed", "end", "load", "fault", "look", "lay", "place", "orders", "pick", "rank", "best",
        "noise", "why", "road", "wire", "stand", "passes", "begin", "run", "minute", "at", "who", "hole",
        "rowLong", "ends", "ill"};
    private static final int[] NUMBERS_OF_CALL = {
        5, 2, 5, 1, 0, 1, 1, 1, 1, 0, 1, 0, 0, 0, 1, 2, 2, 2, 1, 0, 1, 0, 2, 1, 0, 0, 1, 1};
    private static final List<String> ENDING = List.of("guest", "road", "wire", "stand", "lay", "pick", "best");
    private static final List<String> FAR_REACHING = List.of("feed", "who", "end");
    private static final List<String> OF_A_GUEST = List.of("of", "passes", "at", "ill");
    private static final List<String> OF_A_RUN = List.of("run", "minute", "at", "who", "hole", "rowLong", "ends", "ill");
    private static final int[] WILD = {
        Integer.MIN_VALUE, Integer.MAX_VALUE, -2, -1, 0, 1, 8, 9, 10, 20, 50, 51, 400, 500, 501, 1 << 16, -(1 << 28)};
    private static long seed = 1926L;

    private WildTests() {
    }

    public static void main(String[] args) {
        for (int i = 0; i < 300; i++) {
            oneObject();
        }
        Check.close("WildTests");
    }

    private static int any(int n) {
        seed = seed * 6364136223846793005L + 1442695040888963407L;
        return (int) ((seed >>> 33) % n);
    }

    private static void oneObject() {
        CarnivalRoad x = new CarnivalRoad();
        Plain plain = new Plain();
        int most = any(20) == 0 ? 8 : any(7);
        List<String> done = new ArrayList<>();
        // the calls of a text may come behind the last one counted
        for (int made = 0; made < 480; made++) {
            String call = anyCall(plain, most);
            if (call.equals("text")) {
                made += putText(x, plain, done);
            } else {
                ask(x, plain, done, call, numbersFor(call, plain));
            }
        }
    }

    private static void ask(CarnivalRoad x, Plain plain, List<String> done, String call, int... n) {
        done.add(call + Arrays.toString(n));
        String due = plain.answer(call, n);
        String got = answer(x, call, n);
        if (!got.equals(due)) {
            System.out.println(done + " answered " + got + ", due is " + due);
        }
        Check.yes("the last of these calls", got.equals(due));
        if (!got.equals(due)) {
            // what follows a wrong answer tells nothing new: this leaves
            Check.close("WildTests");
        }
    }

    /** Some calls come more often, so that rows, runs and texts get somewhere. */
    private static String anyCall(Plain plain, int most) {
        if (plain.guests.size() < most && any(6) == 0) {
            return "guest";
        }
        int which = any(60);
        if (which < CALLS.length) {
            // what ends a run, or brings one more guest, comes less often than what asks
            boolean rare = ENDING.contains(CALLS[which]) && plain.running && any(8) != 0;
            return rare || which == 0 && plain.guests.size() >= most && any(10) != 0 ? "at" : CALLS[which];
        }
        if (!plain.running) {
            String[] more = {"begin", "text", "text", "lay", "pick", "stand", "wire", "why"};
            return more[any(more.length)];
        }
        String[] more = {"run", "run", "run", "at", "at", "who", "hole", "rowLong", "ends"};
        return more[any(more.length)];
    }

    private static int[] numbersFor(String call, Plain plain) {
        int[] n = new int[NUMBERS_OF_CALL[Arrays.asList(CALLS).indexOf(call)]];
        int guests = plain.guests.size();
        if (call.equals("guest")) {
            n = new int[] {any(5), 1 + any(5), any(10), 1 + any(9), any(2) == 0 ? 9 : any(10)};
        } else if (call.equals("lay")) {
            n[0] = anyRow(guests);
        } else if (call.equals("wire")) {
            n = new int[] {any(plain.cells + 1), any(3) == 0 ? 1 + any(9) : any(2) * 9};
        } else if (call.equals("road")) {
            n = new int[] {1 + any(50), any(4)};
        } else if (call.equals("run")) {
            n[0] = any(3) == 0 ? 1 : any(any(5) == 0 ? 502 : 15);
        } else if (call.equals("pick")) {
            n[0] = any(any(2) == 0 ? 3 : 130);
        } else {
            for (int i = 0; i < n.length; i++) {
                n[i] = any(FAR_REACHING.contains(call) ? 60 : i == 0 ? guests + 2 : 10) - any(2);
            }
        }
        if (n.length > 0 && any(25) == 0) {
            n[any(n.length)] = WILD[any(WILD.length)];
        }
        return n;
    }

    private static int anyRow(int guests) {
        List<Integer> left = new ArrayList<>();
        for (int g = 0; g < guests; g++) {
            left.add(g);
        }
        int bits = 0;
        for (int i = 0; i < guests; i++) {
            int at = any(left.size());
            bits |= (any(30) == 0 ? left.get(at) : left.remove(at)) << (4 * i);
            if (left.size() > guests - 1 - i) {
                left.remove(any(left.size()));
            }
        }
        return bits;
    }

    /** A text that is mostly right comes on the tape and is, mostly, read; how many calls it took. */
    private static int putText(CarnivalRoad x, Plain plain, List<String> done) {
        String text = anyText(plain.guests.size());
        int before = done.size();
        if (any(8) != 0) {
            ask(x, plain, done, "end", 0);
        }
        int length = plain.tape.size() + text.length();
        for (int from = 0; from < text.length(); from += 20) {
            int[] n = new int[5];
            for (int i = 0; i < 20; i++) {
                int sign = from + i < text.length() ? text.charAt(from + i) : 32;
                n[i / 4] = n[i / 4] * 256 + sign;
            }
            ask(x, plain, done, "feed", n);
        }
        ask(x, plain, done, "end", length);
        if (any(8) != 0) {
            ask(x, plain, done, "load");
            ask(x, plain, done, "fault", any(2));
        }
        return done.size() - before;
    }

    private static String anyText(int guests) {
        StringBuilder text = new StringBuilder();
        for (int bars = any(14) == 0 ? 9 + any(4) : any(4); bars > 0; bars--) {
            int word = any(5);
            text.append(Plain.WORDS[word]);
            for (int things = word < 2 ? 2 : word < 4 ? 1 : 0; things > 0; things--) {
                int thing = any(25) == 0 ? any(12) : any(Math.max(1, guests));
                text.append(guests == 0 || any(3) == 0 ? "kind" + (any(20) == 0 ? 5 : any(5)) + " " : " " + thing + " ");
            }
            int apart = any(20) == 0 ? 8 * any(2) : 1 + any(any(4) == 0 ? 7 : 2);
            text.append(word == 0 ? " " + apart : word == 4 ? " " + (9 + any(any(9) == 0 ? 12 : 10)) : "");
            text.append(any(40) == 0 ? "" : ";").append(any(9) == 0 ? "\n" : "");
        }
        if (text.length() > 0 && any(8) == 0) {
            text.setCharAt(any(text.length()), " ;x3\t\u00ffK".charAt(any(7)));
        }
        return text.toString();
    }

    private static String answer(CarnivalRoad x, String call, int[] n) {
        try {
            return answerOrThrow(x, call, n);
        } catch (RuntimeException e) {
            // a class below these two is the machine's own
            return e.getClass() == IndexOutOfBoundsException.class ? NO_GUEST
                : e.getClass() == java.util.NoSuchElementException.class ? NO_RUN : e.toString();
        }
    }

    private static String answerOrThrow(CarnivalRoad x, String call, int[] n) {
        switch (call) {
            case "guest": return "" + x.guest(n[0], n[1], n[2], n[3], n[4]);
            case "of": return "" + x.of(n[0], n[1]);
            case "feed": return "" + x.feed(n[0], n[1], n[2], n[3], n[4]);
            case "end": return "" + x.end(n[0]);
            case "load": return "" + x.load();
            case "fault": return "" + x.fault(n[0]);
            case "look": return "" + x.look(n[0]);
            case "lay": return "" + x.lay(n[0]);
            case "place": return "" + x.place(n[0]);
            case "orders": return "" + x.orders();
            case "pick": return "" + x.pick(n[0]);
            case "rank": return "" + x.rank();
            case "best": return "" + x.best();
            case "noise": return "" + x.noise();
            case "why": return "" + x.why(n[0]);
            case "road": return "" + x.road(n[0], n[1]);
            case "wire": return "" + x.wire(n[0], n[1]);
            case "stand": return "" + x.stand(n[0], n[1]);
            case "passes": return "" + x.passes(n[0]);
            case "begin": return "" + x.begin();
            case "run": return "" + x.run(n[0]);
            case "minute": return "" + x.minute();
            case "at": return "" + x.at(n[0], n[1]);
            case "who": return "" + x.who(n[0]);
            case "hole": return "" + x.hole();
            case "rowLong": return "" + x.rowLong();
            case "ends": return "" + x.ends(n[0]);
            default: return "" + x.ill(n[0]);
        }
    }

    /** The document in its plainest form: all rows made and sieved, each cell of the road looked at. */
    private static final class Plain {
        static final String[] WORDS = {"far", "ahead", "first", "last", "loud", "kind"};

        final List<int[]> guests = new ArrayList<>();
        List<Integer> row = new ArrayList<>();
        List<Integer> tape = new ArrayList<>();
        List<int[]> bars = new ArrayList<>();
        List<List<Integer>> kept = null;
        int fault = 0;
        int faultAt = -1;
        int cells = 20;
        int gap = 1;
        int[] wires = new int[50];
        int[] stands = new int[50];
        boolean running = false;
        int minute;
        List<Integer> line;
        int[] head;
        int[] still;
        int[] came;
        int[] out;

        String answer(String call, int[] n) {
            if (OF_A_GUEST.contains(call) && (n[0] < 0 || n[0] >= guests.size())) {
                return NO_GUEST;
            }
            if (!running && OF_A_RUN.contains(call)) {
                return NO_RUN;
            }
            switch (call) {
                case "guest": return "" + guest(n);
                case "of": return "" + (n[1] < 0 || n[1] > 4 ? -1 : guests.get(n[0])[n[1]]);
                case "feed": return "" + feed(n);
                case "end": return "" + end(n[0]);
                case "load": return "" + load();
                case "fault": return "" + (n[0] == 0 ? fault : n[0] == 1 ? faultAt : -1);
                case "look": return "" + look(n[0]);
                case "lay": return "" + lay(n[0]);
                case "place": return "" + (n[0] < 0 || n[0] >= row.size() ? -1 : row.get(n[0]));
                case "orders": return "" + kept().size();
                case "pick": return "" + pick(n[0]);
                case "rank": return "" + kept().indexOf(row);
                case "best": return "" + best();
                case "noise": return "" + noise(row);
                case "why": return "" + (n[0] < 0 || n[0] > 2 ? -1 : why(row)[n[0]]);
                case "road": return "" + road(n[0], n[1]);
                case "wire": return "" + put(wires, n[0], n[1]);
                case "stand": return "" + put(stands, n[0], n[1]);
                case "passes": return "" + passes(n[0]);
                case "begin": return "" + begin();
                case "run": return "" + run(n[0]);
                case "minute": return "" + minute;
                case "at": return "" + at(n[0], n[1]);
                case "who": return "" + who(n[0]);
                case "hole": return "" + hole();
                case "rowLong": return "" + rowLong();
                case "ends": return "" + ends(n[0]);
                default: return "" + ill(n[0]);
            }
        }

        int guest(int[] n) {
            int[] least = {0, 1, 0, 1, 0};
            int[] most = {4, 5, 9, 9, 9};
            for (int i = 0; i < 5; i++) {
                if (n[i] < least[i] || n[i] > most[i]) {
                    return -1;
                }
            }
            if (guests.size() == 8) {
                return -1;
            }
            guests.add(n.clone());
            row = new ArrayList<>();
            for (int g = 0; g < guests.size(); g++) {
                row.add(g);
            }
            kept = null;
            running = false;
            return guests.size() - 1;
        }

        int feed(int[] n) {
            if (tape.size() > 380) {
                return -1;
            }
            for (int i = 0; i < 20; i++) {
                tape.add(n[i / 4] >> (24 - 8 * (i % 4)) & 255);
            }
            return tape.size();
        }

        boolean end(int n) {
            if (n < 0 || n > tape.size()) {
                return false;
            }
            tape = new ArrayList<>(tape.subList(0, n));
            return true;
        }

        static int sort(int sign) {
            return sign == 32 || sign == 10 ? 0
                : sign >= 'a' && sign <= 'z' || sign >= 'A' && sign <= 'Z' ? 1
                : sign >= '0' && sign <= '9' ? 2 : 3;
        }

        int load() {
            List<String> tokens = new ArrayList<>();
            List<Integer> places = new ArrayList<>();
            for (int i = 0; i < tape.size(); i++) {
                int sort = sort(tape.get(i));
                boolean joins = i > 0 && sort == sort(tape.get(i - 1)) && (sort == 1 || sort == 2);
                if (joins) {
                    tokens.set(tokens.size() - 1, tokens.get(tokens.size() - 1) + (char) (int) tape.get(i));
                } else if (sort != 0) {
                    tokens.add("" + (char) (int) tape.get(i));
                    places.add(i);
                }
            }
            places.add(tape.size());
            tokens.add("end");
            tape.clear();
            fault = 0;
            faultAt = -1;
            List<int[]> read = new ArrayList<>();
            int at = 0;
            while (at < tokens.size() - 1) {
                int[] bar = new int[4];
                int used = readBar(tokens, at, bar, read.size());
                if (fault != 0) {
                    faultAt = places.get(used);
                    return -1;
                }
                at = used;
                read.add(bar);
            }
            bars = read;
            kept = null;
            return bars.size();
        }

        /** The place among the tokens behind the bar, or that of the fault. */
        private int readBar(List<String> tokens, int from, int[] bar, int before) {
            int word = Arrays.asList(WORDS).subList(0, 5).indexOf(tokens.get(from));
            if (word == -1 || before == 10) {
                fault = word == -1 ? 1 : 3;
                return from;
            }
            bar[0] = word;
            int at = from + 1;
            String due = new String[] {"ttf", "tt", "t", "t", "l"}[word];
            for (int i = 0; i < due.length(); i++) {
                boolean kind = due.charAt(i) == 't' && tokens.get(at).equals("kind");
                at += kind ? 1 : 0;
                String number = tokens.get(at);
                if (sort(number.charAt(0)) != 2 || number.length() > 2) {
                    fault = 1;
                    return at;
                }
                int value = Integer.parseInt(number);
                int most = kind ? 4 : due.charAt(i) == 't' ? guests.size() - 1 : due.charAt(i) == 'f' ? 7 : 18;
                if (value > most || value == 0 && due.charAt(i) == 'f') {
                    fault = 2;
                    return at;
                }
                bar[due.charAt(i) == 't' ? 1 + i : 3] = kind ? 100 + value : value;
                at++;
            }
            fault = tokens.get(at).equals(";") ? 0 : 1;
            return fault == 0 ? at + 1 : at;
        }

        int look(int what) {
            int[] all = {guests.size(), bars.size(), cells, gap, running ? 1 : 0};
            return what < 0 || what > 4 ? -1 : all[what];
        }

        boolean lay(int bits) {
            List<Integer> laid = new ArrayList<>();
            for (int i = 0; i < guests.size(); i++) {
                laid.add(bits >> (4 * i) & 15);
            }
            for (int g = 0; g < guests.size(); g++) {
                if (!laid.contains(g)) {
                    return false;
                }
            }
            row = laid;
            running = false;
            return true;
        }

        boolean isOf(int thing, int g) {
            return thing >= 100 ? guests.get(g)[0] == thing - 100 : g == thing;
        }

        boolean breaks(int[] bar, int a, int b, int apart) {
            switch (bar[0]) {
                case 0: return apart < bar[3] && (isOf(bar[1], a) && isOf(bar[2], b) || isOf(bar[1], b) && isOf(bar[2], a));
                case 1: return isOf(bar[1], b) && isOf(bar[2], a);
                case 4: return apart == 1 && guests.get(a)[2] + guests.get(b)[2] > bar[3];
                default: return false;
            }
        }

        boolean scares(int a, int b, int apart) {
            return apart <= 2 && guests.get(b)[0] == 2 && guests.get(a)[2] > guests.get(b)[4];
        }

        int[] why(List<Integer> of) {
            int count = of.size();
            for (int b = 0; b <= bars.size(); b++) {
                int[] bar = b < bars.size() ? bars.get(b) : new int[] {5, 0, 0, 0};
                int number = b < bars.size() ? b : 10;
                if (bar[0] == 2 || bar[0] == 3) {
                    int end = bar[0] == 2 || count == 0 ? 0 : count - 1;
                    if (count == 0 || !isOf(bar[1], of.get(end))) {
                        return new int[] {number, end, end};
                    }
                    continue;
                }
                for (int i = 0; i < count; i++) {
                    for (int j = i + 1; j < count; j++) {
                        int one = of.get(i);
                        int two = of.get(j);
                        if (bar[0] == 5 ? scares(one, two, j - i) || scares(two, one, j - i) : breaks(bar, one, two, j - i)) {
                            return new int[] {number, i, j};
                        }
                    }
                }
            }
            return new int[] {-1, -1, -1};
        }

        List<List<Integer>> kept() {
            if (kept == null) {
                kept = new ArrayList<>();
                addRows(new ArrayList<>());
            }
            return kept;
        }

        private void addRows(List<Integer> begun) {
            if (begun.size() == guests.size() && why(begun)[0] == -1) {
                kept.add(new ArrayList<>(begun));
            }
            for (int g = 0; g < guests.size(); g++) {
                if (!begun.contains(g)) {
                    begun.add(g);
                    addRows(begun);
                    begun.remove(begun.size() - 1);
                }
            }
        }

        boolean pick(int k) {
            if (k < 0 || k >= kept().size()) {
                return false;
            }
            row = kept().get(k);
            running = false;
            return true;
        }

        int noise(List<Integer> of) {
            int sum = 0;
            for (int i = 1; i < of.size(); i++) {
                sum += guests.get(of.get(i))[2] * guests.get(of.get(i - 1))[2];
            }
            return sum;
        }

        int best() {
            if (kept().isEmpty()) {
                return -1;
            }
            row = kept().get(0);
            for (List<Integer> one : kept()) {
                row = noise(one) < noise(row) ? one : row;
            }
            running = false;
            return noise(row);
        }

        boolean road(int r, int newGap) {
            if (r < 1 || r > 50 || newGap < 0 || newGap > 3) {
                return false;
            }
            cells = r;
            gap = newGap;
            wires = new int[50];
            stands = new int[50];
            running = false;
            return true;
        }

        boolean put(int[] onCells, int cell, int value) {
            if (cell < 0 || cell >= cells || value < 0 || value > 9) {
                return false;
            }
            onCells[cell] = value;
            running = false;
            return true;
        }

        int passes(int g) {
            for (int cell = 0; cell < cells; cell++) {
                if (wires[cell] > 0 && guests.get(g)[3] > wires[cell]) {
                    return cell;
                }
            }
            return -1;
        }

        boolean begin() {
            for (int g = 0; g < guests.size(); g++) {
                if (passes(g) != -1) {
                    return false;
                }
            }
            if (guests.isEmpty()) {
                return false;
            }
            start(row);
            running = true;
            return true;
        }

        void start(List<Integer> of) {
            line = new ArrayList<>(of);
            minute = 0;
            head = new int[8];
            still = new int[8];
            came = new int[8];
            out = new int[8];
            Arrays.fill(head, -1);
            Arrays.fill(came, -1);
            Arrays.fill(out, -1);
        }

        int tail(int g) {
            return head[g] - (guests.get(g)[1] - 1);
        }

        List<Integer> notOut() {
            List<Integer> left = new ArrayList<>();
            for (int g : line) {
                if (out[g] == -1) {
                    left.add(g);
                }
            }
            return left;
        }

        List<Integer> onRoad() {
            List<Integer> left = notOut();
            left.removeIf(g -> head[g] == -1);
            return left;
        }

        void step() {
            minute++;
            for (int g : notOut()) {
                int kind = guests.get(g)[0];
                List<Integer> left = notOut();
                int before = left.indexOf(g) - 1;
                if (still[g] > 0) {
                    still[g]--;
                } else if ((kind < 3 || minute % 2 == 0)
                    && (before < 0 || tail(left.get(before)) >= head[g] + 1 + gap + 1)) {
                    come(g, kind);
                }
            }
        }

        private void come(int g, int kind) {
            head[g]++;
            came[g] = head[g] == 0 ? minute : came[g];
            int play = head[g] < cells ? stands[head[g]] : 0;
            still[g] = kind == 1 ? play + play : play;
            still[g] += kind == 4 && head[g] % 10 == 9 ? 3 : 0;
            out[g] = tail(g) >= cells ? minute : -1;
        }

        int run(int minutes) {
            if (minutes < 0 || minutes > 500) {
                return -1;
            }
            int gone = 0;
            while (gone < minutes && !notOut().isEmpty()) {
                step();
                gone++;
            }
            return gone;
        }

        int at(int g, int what) {
            int state = out[g] != -1 ? 3 : head[g] == -1 ? 0 : still[g] > 0 ? 2 : 1;
            int[] all = {head[g], tail(g), state, came[g], out[g]};
            return what < 0 || what > 4 ? -100 : all[what];
        }

        int who(int cell) {
            for (int g : onRoad()) {
                for (int c = tail(g); c <= head[g]; c++) {
                    if (c == cell && c >= 0 && c < cells) {
                        return g;
                    }
                }
            }
            return -1;
        }

        int hole() {
            List<Integer> on = onRoad();
            int most = 0;
            for (int i = 1; i < on.size(); i++) {
                int free = 0;
                for (int cell = head[on.get(i)] + 1; cell < tail(on.get(i - 1)); cell++) {
                    free++;
                }
                most = Math.max(most, free);
            }
            return most;
        }

        int rowLong() {
            int first = -1;
            int last = cells;
            for (int cell = 0; cell < cells; cell++) {
                if (who(cell) != -1) {
                    first = cell;
                    last = Math.min(last, cell);
                }
            }
            return first == -1 ? 0 : first - last + 1;
        }

        int ends(int what) {
            int longest = -1;
            for (int g = 0; what == 1 && g < guests.size(); g++) {
                longest = Math.max(longest, copyOnRoad(List.of(g)).endAt());
            }
            if (what != 0) {
                return longest;
            }
            Plain ahead = copyOnRoad(line);
            ahead.minute = minute;
            ahead.head = head.clone();
            ahead.still = still.clone();
            ahead.out = out.clone();
            return ahead.endAt();
        }

        private Plain copyOnRoad(List<Integer> of) {
            Plain copy = new Plain();
            copy.guests.addAll(guests);
            copy.cells = cells;
            copy.gap = gap;
            copy.stands = stands;
            copy.start(of);
            return copy;
        }

        private int endAt() {
            while (!notOut().isEmpty()) {
                step();
            }
            return minute;
        }

        boolean ill(int g) {
            if (out[g] != -1) {
                return false;
            }
            out[g] = minute;
            return true;
        }
    }
}
