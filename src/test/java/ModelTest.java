import java.util.ArrayDeque;
import java.util.ArrayList;
import java.util.Arrays;
import java.util.HashMap;
import java.util.List;
import java.util.Map;
import java.util.PriorityQueue;
import java.util.Random;
import java.util.TreeSet;

/**
 * Random runs of calls on TurnedFloors and on a slow model that was written from the document alone, by other means:
 * a tree of tests and sums, exceptions, maps of towers. Every answer must be the same.
 */
public final class ModelTest {
    private static final int RUNS = 260;
    private static int wrong = 0;
    private static int calls = 0;

    public static void main(String[] args) {
        for (int seed = 0; seed < RUNS; seed++) {
            new Run(seed).go();
        }
        System.out.println(calls + " calls compared, " + wrong + " answers differ");
        if (wrong != 0) {
            System.exit(1);
        }
    }

    // ---------------------------------------------------------------- the languages

    static final class Broken extends RuntimeException {
        Broken() { super(null, null, false, false); }
    }

    static final class Fault extends RuntimeException {
        final int place;
        Fault(int place) { super(null, null, false, false); this.place = place; }
    }

    interface Sum { long of(Map<String, Integer> words); }

    interface Test { boolean of(Map<String, Integer> words); }

    record Clause(String kind, Sum sum, int times, Test test) { }

    static long checked(long v) {
        if (Math.abs(v) > 1_000_000_000L) {
            throw new Broken();
        }
        return v;
    }

    static final class Parser {
        final String text;
        final boolean orders;
        final List<String> tokens = new ArrayList<>();
        final List<Integer> places = new ArrayList<>();
        int i = 0;
        int parts = 0;

        Parser(String text, boolean orders) {
            this.text = text;
            this.orders = orders;
            int p = 0;
            while (p < text.length()) {
                if (text.charAt(p) == ' ') {
                    p++;
                    continue;
                }
                int q = p;
                String set = text.substring(p, p + 1).matches("[a-z]") ? "[a-z]"
                    : text.substring(p, p + 1).matches("[0-9]") ? "[0-9]" : null;
                do {
                    q++;
                } while (set != null && q < text.length() && text.substring(q, q + 1).matches(set));
                tokens.add(text.substring(p, q));
                places.add(p);
                p = q;
            }
            tokens.add("");
            places.add(text.length());
        }

        String now() { return tokens.get(i); }

        Fault fault() { return new Fault(places.get(i)); }

        boolean take(String t) {
            if (now().equals(t)) {
                i++;
                return true;
            }
            return false;
        }

        void want(String t) {
            if (!take(t)) {
                throw fault();
            }
        }

        int number(int low, int high) {
            if (!now().matches("[0-9]+") || new java.math.BigInteger(now()).compareTo(java.math.BigInteger.valueOf(high)) > 0
                || Integer.parseInt(now()) < low) {
                throw fault();
            }
            return Integer.parseInt(tokens.get(i++));
        }

        List<Clause> all() {
            List<Clause> list = new ArrayList<>();
            list.add(clause());
            while (!now().isEmpty()) {
                want(";");
                if (list.size() == 12) {
                    throw fault();
                }
                list.add(clause());
            }
            return list;
        }

        Clause clause() {
            List<String> kinds = orders ? List.of("turn", "right", "swap", "pass") : List.of("pays", "bars", "tips");
            if (!kinds.contains(now())) {
                throw fault();
            }
            String kind = tokens.get(i++);
            Sum sum = w -> 0;
            if (List.of("turn", "right", "swap", "pays").contains(kind)) {
                sum = sum(0);
            }
            int times = 1;
            if (orders && take("times")) {
                times = number(1, 20);
            }
            Test test = w -> true;
            if (take("if")) {
                test = test(0);
            }
            return new Clause(kind, sum, times, test);
        }

        Test test(int depth) {
            Test left = both(depth);
            if (take("or")) {
                List<Test> list = new ArrayList<>(List.of(left));
                do {
                    list.add(both(depth));
                } while (take("or"));
                return w -> {
                    for (Test t : list) {
                        if (t.of(w)) {
                            return true;
                        }
                    }
                    return false;
                };
            }
            return left;
        }

        Test both(int depth) {
            List<Test> list = new ArrayList<>();
            do {
                list.add(plain(depth));
            } while (take("and"));
            return w -> {
                for (Test t : list) {
                    if (!t.of(w)) {
                        return false;
                    }
                }
                return true;
            };
        }

        Test plain(int depth) {
            if (take("not")) {
                Test t = plain(depth);
                return w -> !t.of(w);
            }
            if (now().equals("(")) {
                if (depth == 8) {
                    throw fault();
                }
                i++;
                Test t = test(depth + 1);
                want(")");
                return t;
            }
            Sum left = sum(depth);
            String op = now();
            if (!List.of("<", ">", "=").contains(op)) {
                throw fault();
            }
            i++;
            Sum rightSum = sum(depth);
            return w -> {
                long a = left.of(w);
                long b = rightSum.of(w);
                return op.equals("<") ? a < b : op.equals(">") ? a > b : a == b;
            };
        }

        Sum sum(int depth) {
            Sum left = product(depth);
            while (now().equals("+") || now().equals("-")) {
                boolean plus = tokens.get(i++).equals("+");
                Sum a = left;
                Sum b = product(depth);
                left = w -> {
                    long x = a.of(w);
                    long y = b.of(w);
                    return checked(plus ? x + y : x - y);
                };
            }
            return left;
        }

        Sum product(int depth) {
            Sum left = part(depth);
            while (List.of("*", "/", "%").contains(now())) {
                String op = tokens.get(i++);
                Sum a = left;
                Sum b = part(depth);
                left = w -> {
                    long x = a.of(w);
                    long y = b.of(w);
                    if (op.equals("*")) {
                        return checked(x * y);
                    }
                    if (y == 0) {
                        throw new Broken();
                    }
                    return op.equals("/") ? x / y : x - x / y * y;
                };
            }
            return left;
        }

        Sum part(int depth) {
            if (now().equals("[")) {
                if (depth == 8) {
                    throw fault();
                }
                i++;
                Sum s = sum(depth + 1);
                want("]");
                return s;
            }
            parts++;
            if (parts > 50) {
                throw fault();
            }
            if (now().matches("[0-9]+")) {
                int n = number(0, 1000);
                return w -> n;
            }
            List<String> words = orders ? List.of("year", "done", "latest", "paid", "gaps", "at", "head")
                : List.of("grip", "top", "next", "head", "floors", "rank", "place", "year", "mood");
            if (!words.contains(now())) {
                throw fault();
            }
            String word = tokens.get(i++);
            if (orders && (word.equals("at") || word.equals("head"))) {
                word = word + number(0, 5);
            }
            String name = word;
            return w -> w.get(name);
        }
    }

    // ---------------------------------------------------------------- the model

    /** Floors as digits: rank * 2 + head, as one character each. */
    static final class Model implements Cloneable {
        String floors = "";
        int paid = 0;
        int[] terms = {0, 1, 0, 0};
        List<int[]> seen = new ArrayList<>();
        List<List<Clause>> laws = new ArrayList<>();
        int force = -1;

        List<Integer> tape = new ArrayList<>();
        int fault = -1;
        int bricks = 0;
        int stopped = -1;
        ArrayDeque<Object[]> undo = new ArrayDeque<>();
        String drawn = "";
        Model[] images = new Model[2];
        int[] refused = new int[7];
        int status = 0;

        int refuse(int why) {
            status = why;
            refused[-why]++;
            return why;
        }

        int ok(int answer) {
            status = 0;
            return answer;
        }

        static int rank(String f, int p) { return p >= 0 && p < f.length() ? (f.charAt(p) - '0') / 2 : -1; }

        static int head(String f, int p) { return p >= 0 && p < f.length() ? (f.charAt(p) - '0') % 2 : -1; }

        static String flip(String f, int p) {
            return f.substring(0, p) + (char) (f.charAt(p) % 2 == 0 ? f.charAt(p) + 1 : f.charAt(p) - 1) + f.substring(p + 1);
        }

        static String turned(String f, int k) {
            StringBuilder b = new StringBuilder(f.substring(0, k)).reverse().append(f.substring(k));
            String s = b.toString();
            for (int p = 0; p < k; p++) {
                s = flip(s, p);
            }
            return s;
        }

        static String ranks(String f) {
            StringBuilder b = new StringBuilder();
            for (int p = 0; p < f.length(); p++) {
                b.append(rank(f, p));
            }
            return b.toString();
        }

        boolean ordered(String f) {
            char[] c = ranks(f).toCharArray();
            Arrays.sort(c);
            if (!ranks(f).equals(new String(c))) {
                return false;
            }
            for (int p = 0; p < f.length(); p++) {
                if (terms[3] == 1 && head(f, p) == 1) {
                    return false;
                }
            }
            return true;
        }

        boolean holds(Clause c, Map<String, Integer> w) {
            try {
                if (!c.test.of(w)) {
                    return false;
                }
                c.sum.of(w);
                return true;
            } catch (Broken b) {
                return false;
            }
        }

        Map<String, Integer> turnWords(String f, int k, int year) {
            Map<String, Integer> w = new HashMap<>();
            w.put("grip", k);
            w.put("top", rank(f, 0));
            w.put("next", rank(f, k));
            w.put("head", head(f, 0));
            w.put("floors", f.length());
            w.put("rank", -1);
            w.put("place", -1);
            w.put("year", year);
            w.put("mood", terms[2]);
            return w;
        }

        List<Clause> lawOf(int law) { return law < 0 ? List.of() : laws.get(law); }

        int pays(List<Clause> law, String f, int k, int year) {
            int answer = k;
            Map<String, Integer> w = turnWords(f, k, year);
            for (Clause c : law) {
                if (c.kind.equals("pays") && holds(c, w)) {
                    answer = (int) Math.max(0, Math.min(99, c.sum.of(w)));
                }
            }
            return answer;
        }

        boolean barred(List<Clause> law, String f, int k, int year) {
            boolean any = false;
            for (Clause c : law) {
                any |= c.kind.equals("bars");
            }
            if (!any) {
                return false;
            }
            Map<String, Integer> w = turnWords(f, k, year);
            return law.stream().anyMatch(c -> c.kind.equals("bars") && holds(c, w));
        }

        boolean tips(String f, int p, int year) {
            Map<String, Integer> w = turnWords(f, 0, year);
            w.put("grip", -1);
            w.put("top", -1);
            w.put("next", -1);
            w.put("head", head(f, p));
            w.put("rank", rank(f, p));
            w.put("place", p);
            return lawOf(force).stream().anyMatch(c -> c.kind.equals("tips") && holds(c, w));
        }

        int act(int kind, int number) {
            if (kind == 0) {
                if (number < 1 || number > 6) {
                    return -1;
                }
                if (number > floors.length() || barred(lawOf(force), floors, number, terms[0])) {
                    return -3;
                }
                int pay = pays(lawOf(force), floors, number, terms[0]);
                floors = turned(floors, number);
                paid = Math.min(9999, paid + pay);
                return pay;
            }
            if (kind == 1) {
                if (number < 0 || number > 5) {
                    return -1;
                }
                if (number >= floors.length()) {
                    return -3;
                }
                floors = flip(floors, number);
                return head(floors, number);
            }
            if (kind == 2) {
                if (number < 0 || number > 4) {
                    return -1;
                }
                if (number + 1 >= floors.length()) {
                    return -3;
                }
                floors = floors.substring(0, number) + floors.charAt(number + 1) + floors.charAt(number)
                    + floors.substring(number + 2);
                return rank(floors, number);
            }
            if (terms[0] == 999) {
                return -3;
            }
            String f = floors;
            int tipped = 0;
            for (int p = 0; p < f.length(); p++) {
                if (tips(f, p, terms[0])) {
                    floors = flip(floors, p);
                    tipped++;
                }
            }
            terms[0]++;
            return tipped;
        }

        int move(int kind, int number) {
            Object[] ahead = {kind, floors, paid, terms[0]};
            int answer = act(kind, number);
            if (answer >= 0) {
                undo.addLast(ahead);
                if (undo.size() > 16) {
                    undo.removeFirst();
                }
            }
            return answer;
        }

        int moved(int answer) { return answer < 0 ? refuse(answer) : ok(answer); }

        int gaps(String f) {
            if (f.isEmpty()) {
                return 0;
            }
            List<Integer> sorted = new ArrayList<>(new TreeSet<>(ranks(f).chars().map(c -> c - '0').boxed().toList()));
            int n = 0;
            for (int p = 0; p + 1 < f.length(); p++) {
                if (Math.abs(sorted.indexOf(rank(f, p)) - sorted.indexOf(rank(f, p + 1))) != 1) {
                    n++;
                }
            }
            return n + (sorted.indexOf(rank(f, f.length() - 1)) == sorted.size() - 1 ? 0 : 1);
        }

        int orders() {
            String text = tapeText();
            stopped = -1;
            fault = -1;
            List<Clause> list;
            try {
                list = new Parser(text, true).all();
            } catch (Fault f) {
                fault = f.place;
                return refuse(-6);
            }
            String f0 = floors;
            int p0 = paid;
            int y0 = terms[0];
            ArrayDeque<Object[]> u0 = new ArrayDeque<>(undo);
            int done = 0;
            int latest = -1;
            for (int c = 0; c < list.size(); c++) {
                Clause clause = list.get(c);
                for (int t = 0; t < clause.times; t++) {
                    Map<String, Integer> w = new HashMap<>();
                    w.put("year", terms[0]);
                    w.put("done", done);
                    w.put("latest", latest);
                    w.put("paid", paid);
                    w.put("gaps", gaps(floors));
                    for (int p = 0; p < 6; p++) {
                        w.put("at" + p, rank(floors, p));
                        w.put("head" + p, head(floors, p));
                    }
                    try {
                        if (!clause.test.of(w)) {
                            continue;
                        }
                    } catch (Broken b) {
                        continue;
                    }
                    int kind = List.of("turn", "right", "swap", "pass").indexOf(clause.kind);
                    int answer;
                    try {
                        answer = move(kind, (int) clause.sum.of(w));
                    } catch (Broken b) {
                        answer = -3;
                    }
                    if (answer < 0) {
                        floors = f0;
                        paid = p0;
                        terms[0] = y0;
                        undo = u0;
                        stopped = c;
                        return refuse(-3);
                    }
                    done++;
                    if (kind == 0) {
                        latest = answer;
                    }
                }
            }
            return ok(done);
        }

        String tapeText() {
            StringBuilder b = new StringBuilder();
            for (int t : tape) {
                b.append((char) t);
            }
            tape.clear();
            return b.toString();
        }

        int law() {
            String text = tapeText();
            if (laws.size() == 6) {
                return refuse(-5);
            }
            fault = -1;
            try {
                laws.add(new Parser(text, false).all());
            } catch (Fault f) {
                fault = f.place;
                return refuse(-6);
            }
            return ok(laws.size() - 1);
        }

        List<Integer> allowed(List<Clause> law, String f) {
            List<Integer> ks = new ArrayList<>();
            for (int k = 1; k <= f.length(); k++) {
                if (!barred(law, f, k, terms[0])) {
                    ks.add(k);
                }
            }
            return ks;
        }

        Map<String, Integer> forward(List<Clause> law) {
            Map<String, Integer> far = new HashMap<>();
            ArrayDeque<String> line = new ArrayDeque<>();
            far.put(floors, 0);
            line.add(floors);
            while (!line.isEmpty()) {
                String f = line.poll();
                for (int k : allowed(law, f)) {
                    String g = turned(f, k);
                    if (!far.containsKey(g)) {
                        far.put(g, far.get(f) + 1);
                        line.add(g);
                    }
                }
            }
            return far;
        }

        int fewestBy(List<Clause> law) {
            int best = -1;
            for (Map.Entry<String, Integer> e : forward(law).entrySet()) {
                if (ordered(e.getKey()) && (best < 0 || e.getValue() < best)) {
                    best = e.getValue();
                }
            }
            return best;
        }

        /** All towers of these ranks with the fewest turns of each, by going over all of them again and again. */
        Map<String, Integer> distances() {
            List<String> all = new ArrayList<>();
            arrange("", ranks(floors), all);
            Map<String, List<String>> into = new HashMap<>();
            Map<String, Integer> far = new HashMap<>();
            ArrayDeque<String> line = new ArrayDeque<>();
            for (String f : all) {
                for (int k : allowed(lawOf(force), f)) {
                    into.computeIfAbsent(turned(f, k), x -> new ArrayList<>()).add(f);
                }
                if (ordered(f)) {
                    far.put(f, 0);
                    line.add(f);
                }
            }
            while (!line.isEmpty()) {
                String f = line.poll();
                for (String g : into.getOrDefault(f, List.of())) {
                    if (!far.containsKey(g)) {
                        far.put(g, far.get(f) + 1);
                        line.add(g);
                    }
                }
            }
            return far;
        }

        void arrange(String done, String left, List<String> all) {
            if (left.isEmpty()) {
                all.add(done);
            }
            for (int i = 0; i < left.length(); i++) {
                int r = left.charAt(i) - '0';
                String rest = left.substring(0, i) + left.substring(i + 1);
                arrange(done + (char) ('0' + 2 * r), rest, all);
                arrange(done + (char) ('1' + 2 * r), rest, all);
            }
        }

        List<Integer> firstRow() {
            Map<String, Integer> far = distances();
            if (!far.containsKey(floors)) {
                return null;
            }
            List<Integer> row = new ArrayList<>();
            String f = floors;
            while (far.get(f) > 0) {
                for (int k : allowed(lawOf(force), f)) {
                    if (far.getOrDefault(turned(f, k), 99999) == far.get(f) - 1) {
                        row.add(k);
                        f = turned(f, k);
                        break;
                    }
                }
            }
            return row;
        }

        int many() {
            Map<String, Integer> far = distances();
            return (int) Math.min(1_000_000_000L, rows(floors, far, new HashMap<>()));
        }

        long rows(String f, Map<String, Integer> far, Map<String, Long> known) {
            if (!far.containsKey(f)) {
                return 0;
            }
            if (far.get(f) == 0) {
                return 1;
            }
            if (known.containsKey(f)) {
                return known.get(f);
            }
            long sum = 0;
            for (int k : allowed(lawOf(force), f)) {
                String g = turned(f, k);
                if (far.getOrDefault(g, -5) == far.get(f) - 1) {
                    sum = Math.min(1_000_000_000L, sum + rows(g, far, known));
                }
            }
            known.put(f, sum);
            return sum;
        }

        int cheapest() {
            Map<String, Integer> best = new HashMap<>();
            PriorityQueue<Object[]> queue = new PriorityQueue<>((a, b) -> (Integer) a[1] - (Integer) b[1]);
            best.put(floors, 0);
            queue.add(new Object[] {floors, 0});
            while (!queue.isEmpty()) {
                Object[] e = queue.poll();
                String f = (String) e[0];
                if (best.get(f) < (Integer) e[1]) {
                    continue;
                }
                if (ordered(f)) {
                    return (Integer) e[1];
                }
                for (int k : allowed(lawOf(force), f)) {
                    int cost = (Integer) e[1] + pays(lawOf(force), f, k, terms[0]);
                    String g = turned(f, k);
                    if (!best.containsKey(g) || best.get(g) > cost) {
                        best.put(g, cost);
                        queue.add(new Object[] {g, cost});
                    }
                }
            }
            return -1;
        }

        int worst(int what) {
            if (what < 0 || what > 2) {
                return -1;
            }
            Map<String, Integer> far = distances();
            int most = far.values().stream().mapToInt(x -> x).max().orElse(-1);
            return what == 0 ? most : what == 1 ? (int) far.values().stream().filter(x -> x == most).count() : far.size();
        }

        int comes(int order) {
            String told = String.format("%0" + Math.max(1, floors.length()) + "d", order);
            if (floors.isEmpty()) {
                return order == 0 ? 0 : -1;
            }
            return forward(lawOf(force)).entrySet().stream().filter(e -> ranks(e.getKey()).equals(told))
                .mapToInt(Map.Entry::getValue).min().orElse(-1);
        }

        int view(int rank) {
            return forward(lawOf(force)).entrySet().stream().filter(e -> !e.getKey().isEmpty() && rank(e.getKey(), 0) == rank)
                .mapToInt(Map.Entry::getValue).min().orElse(-1);
        }

        /** The longest rising row whose places, one by one, are lowest. */
        List<Integer> stay(int from, int above) {
            List<Integer> best = new ArrayList<>();
            for (int p = from; p < floors.length(); p++) {
                if (rank(floors, p) > above && (terms[3] == 0 || head(floors, p) == 0)) {
                    List<Integer> row = new ArrayList<>(List.of(p));
                    row.addAll(stay(p + 1, rank(floors, p)));
                    if (row.size() > best.size()) {
                        best = row;
                    }
                }
            }
            return best;
        }

        int stays(int what) {
            List<Integer> row = stay(0, -1);
            return what == 0 ? row.size() : what == 1 ? row.stream().mapToInt(p -> 1 << p).sum() : -1;
        }

        List<String> were() {
            List<String> list = new ArrayList<>();
            for (int k : allowed(lawOf(force), floors)) {
                String g = turned(floors, k);
                if (seen.stream().allMatch(s -> rank(g, s[0]) == s[1])) {
                    list.add(k + g);
                }
            }
            return list;
        }

        int look(int what) {
            int bestPlace = -1;
            int best = 99;
            for (int p = 0; p < floors.length(); p++) {
                Map<Integer, Integer> groups = new HashMap<>();
                for (String g : were()) {
                    groups.merge(rank(g.substring(1), p), 1, Integer::sum);
                }
                int most = groups.values().stream().mapToInt(x -> x).max().orElse(0);
                if (most > 0 && most < best) {
                    best = most;
                    bestPlace = p;
                }
            }
            return bestPlace < 0 ? -1 : what == 0 ? bestPlace : what == 1 ? best : -1;
        }

        /** The chance that just j of n slip. */
        long slip(int j, int n, Map<Integer, Long> known) {
            if (n == 0) {
                return j == 0 ? 1_000_000_000_000L : 0;
            }
            if (j < 0) {
                return 0;
            }
            Long k = known.get(j * 100 + n);
            if (k == null) {
                k = slip(j, n - 1, known) * (10 - terms[1]) / 10 + slip(j - 1, n - 1, known) * terms[1] / 10;
                known.put(j * 100 + n, k);
            }
            return k;
        }

        long few(int k, int n) {
            if (k < 1 || k > 20 || n < 0 || n > 99) {
                return -1;
            }
            Map<Integer, Long> known = new HashMap<>();
            long sum = 0;
            for (int j = 0; j < k; j++) {
                sum += slip(j, n, known);
            }
            return sum;
        }

        int years(int seed, int n) {
            if (seed < 0 || seed > 1_000_000 || n < 1 || n > 60) {
                return refuse(-1);
            }
            if (floors.isEmpty()) {
                return refuse(-3);
            }
            Model m = copy();
            long s = seed;
            for (int i = 0; i < n; i++) {
                if (m.terms[0] == 999) {
                    break;
                }
                s = (s * 1103 + 12345) % 1_000_003;
                int first = (int) (s % 6);
                s = (s * 1103 + 12345) % 1_000_003;
                if (s % 3 < 2) {
                    m.act(0, first + 1);
                } else {
                    m.act(1, first);
                }
                m.act(3, 0);
            }
            drawn = m.floors;
            return ok(m.paid - paid);
        }

        Model copy() {
            Model m = new Model();
            m.take(this);
            return m;
        }

        void take(Model m) {
            floors = m.floors;
            paid = m.paid;
            terms = m.terms.clone();
            seen = new ArrayList<>(m.seen);
            laws = new ArrayList<>(m.laws);
            force = m.force;
        }

        int floor(int rank, int head) {
            if (rank < 0 || rank > 5 || head < 0 || head > 1) {
                return refuse(-1);
            }
            if (ranks(floors).indexOf('0' + rank) >= 0) {
                return refuse(-3);
            }
            floors += (char) ('0' + 2 * rank + head);
            undo.clear();
            return ok(floors.length() - 1);
        }

        int row() {
            if (tape.isEmpty()) {
                return refuse(-6);
            }
            int came = 0;
            bricks = 0;
            for (int i = 0; i < tape.size(); i += 2) {
                int r = tape.get(i);
                int h = i + 1 < tape.size() ? tape.get(i + 1) : 99;
                if (r > 5 || h > 1 || ranks(floors).indexOf('0' + r) >= 0) {
                    bricks++;
                } else {
                    floors += (char) ('0' + 2 * r + h);
                    came++;
                }
            }
            tape.clear();
            undo.clear();
            return ok(came);
        }

        int terms(int what, int value) {
            int[] most = {999, 10, 9, 1};
            if (what < 0 || what > 3 || value < 0 || value > most[what]) {
                return refuse(-1);
            }
            int old = terms[what];
            terms[what] = value;
            undo.clear();
            return ok(old);
        }

        int undo() {
            if (undo.isEmpty()) {
                return refuse(-3);
            }
            Object[] ahead = undo.removeLast();
            floors = (String) ahead[1];
            paid = (Integer) ahead[2];
            terms[0] = (Integer) ahead[3];
            return ok((Integer) ahead[0]);
        }

        int feed(int... numbers) {
            if (tape.size() > 380) {
                return -1;
            }
            for (byte b : java.nio.ByteBuffer.allocate(20).putInt(numbers[0]).putInt(numbers[1]).putInt(numbers[2])
                .putInt(numbers[3]).putInt(numbers[4]).array()) {
                tape.add(b & 255);
            }
            return tape.size();
        }

        int end(int n) {
            if (n < 0 || n > tape.size()) {
                return -1;
            }
            tape = new ArrayList<>(tape.subList(0, n));
            return n;
        }

        int force(int law) {
            if (law < -1 || law >= laws.size()) {
                return refuse(-2);
            }
            int old = force;
            force = law;
            return ok(old);
        }

        int seen(int place, int rank) {
            if (place < 0 || place > 5 || rank < 0 || rank > 5) {
                return refuse(-1);
            }
            if (seen.size() == 6) {
                return refuse(-5);
            }
            seen.add(new int[] {place, rank});
            return ok(seen.size());
        }

        int forget() {
            int n = seen.size();
            seen.clear();
            return n;
        }

        int image(int k) {
            if (k < 0 || k > 1) {
                return refuse(-1);
            }
            images[k] = copy();
            return ok(0);
        }

        int back(int k) {
            if (k < 0 || k > 1) {
                return refuse(-1);
            }
            if (images[k] == null) {
                return refuse(-2);
            }
            take(images[k]);
            undo.clear();
            return ok(0);
        }

        int at(int p, int what) {
            if (p < 0 || p >= floors.length()) {
                return -1;
            }
            return what == 0 ? rank(floors, p) : what == 1 ? head(floors, p)
                : what == 2 ? (tips(floors, p, terms[0]) ? 1 : 0) : -1;
        }

        int asks(int k, int what) {
            if (k < 1 || k > floors.length()) {
                return -1;
            }
            return what == 0 ? pays(lawOf(force), floors, k, terms[0])
                : what == 1 ? (barred(lawOf(force), floors, k, terms[0]) ? 1 : 0) : -1;
        }

        int count(int what) {
            int onHeads = 0;
            for (int p = 0; p < floors.length(); p++) {
                onHeads += head(floors, p);
            }
            int[] all = {floors.length(), onHeads, paid, seen.size(), laws.size(), undo.size(), tape.size(), refused[1],
                refused[2], refused[3], refused[5], refused[6], force, terms[0], terms[1], terms[2], terms[3],
                ordered(floors) ? 1 : 0};
            return what < 0 || what >= all.length ? -1 : all[what];
        }
    }

    // ---------------------------------------------------------------- the runs

    static final class Run {
        final int seed;
        final Random random;
        final TurnedFloors x = new TurnedFloors();
        final Model m = new Model();
        final StringBuilder log = new StringBuilder();
        int searches = 0;

        Run(int seed) {
            this.seed = seed;
            this.random = new Random(seed * 7919L + 13);
        }

        int of(int n) { return random.nextInt(n); }

        void same(String call, long got, long want) {
            calls++;
            log.append(call).append(" -> ").append(got).append('\n');
            if (got != want) {
                wrong++;
                if (wrong < 20) {
                    System.out.println("run " + seed + ": " + call + " answered " + got + ", the model " + want);
                }
                if (wrong == 1) {
                    System.out.println(log);
                }
            }
        }

        void go() {
            int wanted = seed % 10 == 0 ? 6 : of(6);
            for (int i = 0; i < wanted; i++) {
                int r = of(6);
                int h = of(2);
                same("floor(" + r + "," + h + ")", x.floor(r, h), m.floor(r, h));
            }
            for (int i = 0; i < 330 && wrong == 0; i++) {
                call(of(45));
                if (of(3) == 0) {
                    look();
                }
            }
        }

        void look() {
            for (int what = -1; what <= 18; what++) {
                same("count(" + what + ")", x.count(what), m.count(what));
            }
            for (int p = -1; p <= 6; p++) {
                for (int what = 0; what < 3; what++) {
                    same("at(" + p + "," + what + ")", x.at(p, what), m.at(p, what));
                }
                for (int what = 0; what < 2; what++) {
                    same("drawn(" + p + "," + what + ")", x.drawn(p, what),
                        what == 0 ? Model.rank(m.drawn, p) : Model.head(m.drawn, p));
                    same("asks(" + p + "," + what + ")", x.asks(p, what), m.asks(p, what));
                }
            }
            same("status()", x.status(), m.status);
            same("fault()", x.fault(), m.fault);
            same("stopped()", x.stopped(), m.stopped);
            same("bricks()", x.bricks(), m.bricks);
        }

        void call(int which) {
            int a = of(8) - 1;
            int b = of(8) - 1;
            switch (which) {
                case 0: same("floor(" + a + "," + b % 2 + ")", x.floor(a, b % 2), m.floor(a, b % 2)); break;
                case 1: {
                    int value = a == 0 ? (of(4) == 0 ? 990 + of(12) : of(30)) : of(13) - 1;
                    same("terms(" + a + "," + value + ")", x.terms(a, value), m.terms(a, value));
                    break;
                }
                case 2: rowOf(); break;
                case 3: case 4: case 5: case 6: law(); break;
                case 7: case 8: case 9: case 10: orders(); break;
                case 11: same("force(" + a + ")", x.force(a), m.force(a)); break;
                case 12: {
                    int law = m.laws.isEmpty() ? -1 : of(m.laws.size());
                    same("force(" + law + ")", x.force(law), m.force(law));
                    break;
                }
                case 13: case 14: case 15: same("turn(" + a + ")", x.turn(a), m.moved(m.move(0, a))); break;
                case 16: same("right(" + a + ")", x.right(a), m.moved(m.move(1, a))); break;
                case 17: same("swap(" + a + ")", x.swap(a), m.moved(m.move(2, a))); break;
                case 18: case 19: same("pass()", x.pass(), m.moved(m.move(3, 0))); break;
                case 20: case 21: case 22: same("undo()", x.undo(), m.undo()); break;
                case 23: same("stays(" + b + ")", x.stays(b), m.stays(b)); break;
                case 24: same("gaps()", x.gaps(), m.gaps(m.floors)); break;
                case 25: same("seen(" + a + "," + b + ")", x.seen(a, b), m.seen(a, b)); break;
                case 26: seenTrue(); break;
                case 27: same("forget()", x.forget(), m.forget()); break;
                case 28: same("was()", x.was(), m.were().stream().mapToInt(g -> 1 << (g.charAt(0) - '0')).sum()); break;
                case 29: same("look(" + b + ")", x.look(b), m.look(b)); break;
                case 30: {
                    int k = of(24) - 1;
                    int n = of(104) - 2;
                    same("few(" + k + "," + n + ")", x.few(k, n), m.few(k, n));
                    break;
                }
                case 31: case 32: {
                    int s = of(20) == 0 ? 1_000_000 + of(2) : of(1_000_000) - 1;
                    int n = of(63) - 1;
                    same("years(" + s + "," + n + ")", x.years(s, n), m.years(s, n));
                    break;
                }
                case 33: same("image(" + a % 3 + ")", x.image(a % 3), m.image(a % 3)); break;
                case 34: same("back(" + a % 3 + ")", x.back(a % 3), m.back(a % 3)); break;
                case 35: {
                    int n = of(420) - 5;
                    same("end(" + n + ")", x.end(n), m.end(n));
                    break;
                }
                case 36: {
                    for (int i = of(4) == 0 ? 22 : 1; i > 0; i--) {
                        same("feed(..)", x.feed(a, -b, 3, 4, 5), m.feed(a, -b, 3, 4, 5));
                    }
                    break;
                }
                case 37: {
                    same("row()", x.row(), m.row());
                    same("row()", x.row(), m.row());
                    break;
                }
                default: search(which); break;
            }
        }

        void search(int which) {
            // The model is slow on tall towers.
            searches += m.floors.length() == 6 ? 1 : 0;
            if (m.floors.length() == 6 && searches > 4 || m.floors.length() == 5 && of(3) > 0) {
                return;
            }
            int a = of(8) - 1;
            switch (which) {
                case 38: {
                    List<Integer> row = m.firstRow();
                    same("fewest(-1)", x.fewest(-1), row == null ? -1 : row.size());
                    for (int i = -2; i < (row == null ? 2 : row.size() + 2); i++) {
                        if (i != -1) {
                            same("fewest(" + i + ")", x.fewest(i), row == null || i < 0 || i >= row.size() ? -1 : row.get(i));
                        }
                    }
                    break;
                }
                case 39: same("many()", x.many(), m.many()); break;
                case 40: same("cheapest()", x.cheapest(), m.cheapest()); break;
                case 41: same("worst(" + a + ")", x.worst(a), m.worst(a)); break;
                case 42: same("reach()", x.reach(), m.forward(m.lawOf(m.force)).size()); break;
                case 43: {
                    int order = of(10) == 0 ? of(600000) - 5 : Integer.parseInt("0" + shuffled());
                    same("comes(" + order + ")", x.comes(order), m.comes(order));
                    break;
                }
                default: {
                    same("view(" + a + ")", x.view(a), m.view(a));
                    same("compare(" + a + ")", x.compare(a),
                        a < -1 || a >= m.laws.size() ? -1 : m.fewestBy(m.lawOf(a)));
                    break;
                }
            }
        }

        String shuffled() {
            List<Character> list = new ArrayList<>();
            for (char c : Model.ranks(m.floors).toCharArray()) {
                list.add(c);
            }
            java.util.Collections.shuffle(list, random);
            StringBuilder b = new StringBuilder();
            list.forEach(b::append);
            return b.toString();
        }

        /** What would truly be seen behind a turn, so that was() is not always nothing. */
        void seenTrue() {
            if (m.floors.isEmpty()) {
                return;
            }
            String g = Model.turned(m.floors, 1 + of(m.floors.length()));
            int p = of(g.length());
            same("seen(" + p + "," + Model.rank(g, p) + ")", x.seen(p, Model.rank(g, p)), m.seen(p, Model.rank(g, p)));
        }

        void tape(String text) {
            same("end(0)", x.end(0), m.end(0));
            for (int from = 0; from < text.length(); from += 20) {
                int[] n = new int[5];
                for (int i = 0; i < 20; i++) {
                    int c = from + i < text.length() ? text.charAt(from + i) : 0;
                    n[i / 4] = n[i / 4] << 8 | c;
                }
                same("feed(..)", x.feed(n[0], n[1], n[2], n[3], n[4]), m.feed(n));
            }
            same("end(" + text.length() + ") of " + text, x.end(text.length()), m.end(text.length()));
        }

        void rowOf() {
            StringBuilder b = new StringBuilder();
            for (int i = of(5); i >= 0; i--) {
                b.append((char) of(8));
            }
            tape(b.toString());
            same("row()", x.row(), m.row());
        }

        void law() {
            tape(spoiled(lawText()));
            same("law()", x.law(), m.law());
            same("fault()", x.fault(), m.fault);
        }

        void orders() {
            tape(spoiled(orderText()));
            same("orders()", x.orders(), m.orders());
            same("fault()", x.fault(), m.fault);
            same("stopped()", x.stopped(), m.stopped);
        }

        String spoiled(String text) {
            String t = text.length() > 400 ? text.substring(0, 400) : text;
            if (of(5) > 0 || t.isEmpty()) {
                return t;
            }
            int p = of(t.length());
            String signs = "abz09 ;()[]<>=+-*/%A{" + (char) 0 + (char) 255 + (char) 9;
            switch (of(4)) {
                case 0: return t.substring(0, p);
                case 1: return t.substring(0, p) + t.substring(p + 1);
                case 2: return t.substring(0, p) + signs.charAt(of(signs.length())) + t.substring(p + 1);
                default: return t.length() < 399 ? t.substring(0, p) + signs.charAt(of(signs.length())) + t.substring(p) : t;
            }
        }

        String blank() { return of(6) == 0 ? "  " : " "; }

        String lawText() {
            StringBuilder b = new StringBuilder();
            int clauses = of(12) == 0 ? 11 + of(4) : 1 + of(4);
            boolean tight = clauses > 10;
            for (int c = 0; c < clauses; c++) {
                b.append(c == 0 ? "" : of(2) == 0 ? ";" : " ; ");
                int kind = of(3);
                b.append(kind == 0 ? "pays " + sum(false, tight ? 0 : 2) : kind == 1 ? "bars" : "tips");
                if (kind > 0 && !tight || of(2) == 0) {
                    b.append(" if").append(blank()).append(test(false, tight ? 0 : 2));
                }
            }
            return b.toString();
        }

        String orderText() {
            StringBuilder b = new StringBuilder();
            int clauses = of(12) == 0 ? 11 + of(4) : 1 + of(5);
            boolean tight = clauses > 10;
            for (int c = 0; c < clauses; c++) {
                b.append(c == 0 ? "" : of(2) == 0 ? ";" : " ; ");
                int kind = of(4);
                String number = of(3) > 0 ? "" + (kind == 0 ? 1 + of(3) : of(3)) : sum(true, tight ? 0 : 1);
                b.append(kind == 0 ? "turn " + number : kind == 1 ? "right " + number : kind == 2 ? "swap " + number : "pass");
                if (of(3) == 0) {
                    b.append(" times ").append(of(8) == 0 ? of(22) : 1 + of(3));
                }
                if (of(2) == 0) {
                    b.append(" if").append(blank()).append(test(true, tight ? 0 : 2));
                }
            }
            return b.toString();
        }

        String test(boolean ofOrders, int depth) {
            int kind = of(depth > 0 ? 8 : 4);
            switch (kind) {
                case 4: return "not " + test(ofOrders, depth - 1);
                case 5: {
                    int n = of(15) == 0 ? 7 + of(4) : 1;
                    return "(".repeat(n) + test(ofOrders, depth - 1) + ")".repeat(n);
                }
                case 6: return test(ofOrders, depth - 1) + " and " + test(ofOrders, depth - 1);
                case 7: return test(ofOrders, depth - 1) + " or " + test(ofOrders, depth - 1);
                default: return sum(ofOrders, depth - 1) + blank() + "<>=".charAt(of(3)) + " " + sum(ofOrders, depth - 1);
            }
        }

        String sum(boolean ofOrders, int depth) {
            int kind = of(depth > 0 ? 7 : 4);
            switch (kind) {
                case 4: {
                    int n = of(15) == 0 ? 7 + of(4) : 1;
                    return "[".repeat(n) + sum(ofOrders, depth - 1) + "]".repeat(n);
                }
                case 5: return sum(ofOrders, depth - 1) + "+-".charAt(of(2)) + sum(ofOrders, depth - 1);
                case 6: return sum(ofOrders, depth - 1) + "*/%".charAt(of(3)) + sum(ofOrders, depth - 1);
                case 0: {
                    if (of(40) == 0) {
                        return "1" + "+1".repeat(44 + of(10));
                    }
                    return of(10) == 0 ? "" + (998 + of(4)) : of(10) == 0 ? "1000*1000*1000" : "" + of(7);
                }
                default: return word(ofOrders);
            }
        }

        String word(boolean ofOrders) {
            String[] lawWords = {"grip", "top", "next", "head", "floors", "rank", "place", "year", "mood"};
            String[] orderWords = {"year", "done", "latest", "paid", "gaps", "at", "head"};
            String w = ofOrders ? orderWords[of(7)] : lawWords[of(9)];
            if (ofOrders && (w.equals("at") || w.equals("head"))) {
                w += " " + of(of(20) == 0 ? 8 : 6);
            }
            return w;
        }
    }
}
