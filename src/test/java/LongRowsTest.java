import java.math.BigInteger;
import java.util.ArrayList;
import java.util.Comparator;
import java.util.HashMap;
import java.util.List;
import java.util.Map;
import java.util.PriorityQueue;
import java.util.TreeSet;

/**
 * Laws that bar so many turns that the rows to order are hundreds of turns long and there are more of them than many()
 * may tell; without a law no row is longer than 12. All that is due is worked out here, by names of towers and without
 * any limit.
 */
public final class LongRowsTest {
    private static final BigInteger MOST = BigInteger.valueOf(1_000_000_000);

    interface Bars {
        boolean on(int grip, int top, int next, int head);
    }

    interface Pays {
        int on(int grip, int top, int next, int head);
    }

    private static final Pays AS_GRIPPED = (grip, top, next, head) -> grip;

    /** Most turns pay nothing by this law. */
    private static final String SELDOM_PAYS_LAW = "pays [top-next-1]*head*7";

    private static final Pays SELDOM_PAYS = (grip, top, next, head) -> Math.max(0, (top - next - 1) * head * 7);

    /** Found by search; the same law once as a text and once in Java. */
    private static final String UPRIGHT_LAW = "bars if [grip+head*9]%11<4; bars if [grip*6+next+head*5]%8=1;"
        + "bars if top=4 and next<5; bars if next=1 and head=0 and not top=2;"
        + "bars if grip+next+head=2 and top+head=3; bars if grip+top<2";

    private static final Bars UPRIGHT_BARS = (grip, top, next, head) ->
        (grip + head * 9) % 11 < 4 || (grip * 6 + next + head * 5) % 8 == 1
            || top == 4 && next < 5 || next == 1 && head == 0 && top != 2
            || grip + next + head == 2 && top + head == 3 || grip + top < 2;

    private static final String ANY_HEADS_LAW = "bars if [grip+head*6]%8<4;"
        + "bars if [grip*3+top+next]%5=0 and next=2; bars if top+next=9 and grip>1; bars if top=0";

    private static final Bars ANY_HEADS_BARS = (grip, top, next, head) ->
        (grip + head * 6) % 8 < 4 || (grip * 3 + top + next) % 5 == 0 && next == 2 || top + next == 9 && grip > 1
            || top == 0;

    /** Here the rows of one tower end at several that are ordered, each by more rows than many() may tell. */
    private static final String MANY_ENDS_LAW = "bars if top+next*3+head*3>4 and grip>2;"
        + "bars if [grip*8+top*6+next]%6<5 and top+head>4;"
        + "bars if [grip+next*8+head*8]%10=4 and [top+next*6+head*5]%7>2 and [top+next*3]%6>1";

    private static final Bars MANY_ENDS_BARS = (grip, top, next, head) ->
        top + next * 3 + head * 3 > 4 && grip > 2
            || (grip * 8 + top * 6 + next) % 6 < 5 && top + head > 4
            || (grip + next * 8 + head * 8) % 10 == 4 && (top + next * 6 + head * 5) % 7 > 2 && (top + next * 3) % 6 > 1;

    /** All towers of six floors by name: a digit for a floor that stands upright, a letter for one on its head. */
    static final class Towers {
        final Bars bars;
        final int heads;
        final List<String> names = new ArrayList<>();
        final Map<String, Integer> turns = new HashMap<>();
        final Map<String, BigInteger> rows = new HashMap<>();

        Towers(Bars bars, int heads) {
            this.bars = bars;
            this.heads = heads;
            name("", "012345");
            measure();
        }

        private void name(String sofar, String left) {
            if (left.isEmpty()) {
                names.add(sofar);
            }
            for (int i = 0; i < left.length(); i++) {
                String rest = left.substring(0, i) + left.substring(i + 1);
                name(sofar + left.charAt(i), rest);
                name(sofar + onHead(left.charAt(i)), rest);
            }
        }

        private void measure() {
            List<String> line = new ArrayList<>();
            for (String name : names) {
                if (isOrdered(name)) {
                    turns.put(name, 0);
                    rows.put(name, BigInteger.ONE);
                    line.add(name);
                }
            }
            for (int i = 0; i < line.size(); i++) {
                String near = line.get(i);
                for (int k = 1; k <= 6; k++) {
                    String far = turned(near, k);
                    if (!barred(far, k)) {
                        if (turns.putIfAbsent(far, turns.get(near) + 1) == null) {
                            line.add(far);
                        }
                        if (turns.get(far) == turns.get(near) + 1) {
                            rows.merge(far, rows.get(near), BigInteger::add);
                        }
                    }
                }
            }
        }

        static char onHead(char upright) { return (char) (upright - '0' + 'a'); }

        static char toggled(char floor) { return floor >= 'a' ? (char) (floor - 'a' + '0') : onHead(floor); }

        static int rank(char floor) { return floor >= 'a' ? floor - 'a' : floor - '0'; }

        static int head(char floor) { return floor >= 'a' ? 1 : 0; }

        static String turned(String name, int k) {
            StringBuilder b = new StringBuilder();
            for (int i = k - 1; i >= 0; i--) {
                b.append(toggled(name.charAt(i)));
            }
            return b + name.substring(k);
        }

        boolean isOrdered(String name) {
            return heads == 1 ? name.equals("012345") : name.matches("[0a][1b][2c][3d][4e][5f]");
        }

        boolean barred(String name, int k) {
            int next = k < 6 ? rank(name.charAt(k)) : -1;
            return bars.on(k, rank(name.charAt(0)), next, head(name.charAt(0)));
        }

        int pays(String name, int k, Pays law) {
            int next = k < 6 ? rank(name.charAt(k)) : -1;
            return law.on(k, rank(name.charAt(0)), next, head(name.charAt(0)));
        }

        int cheapest(String from, Pays law) {
            Map<String, Integer> paid = new HashMap<>();
            PriorityQueue<Map.Entry<String, Integer>> open = new PriorityQueue<>(Map.Entry.comparingByValue());
            open.add(Map.entry(from, 0));
            while (!open.isEmpty()) {
                Map.Entry<String, Integer> now = open.remove();
                if (paid.putIfAbsent(now.getKey(), now.getValue()) != null) {
                    continue;
                }
                if (isOrdered(now.getKey())) {
                    return now.getValue();
                }
                for (int k = 1; k <= 6; k++) {
                    if (!barred(now.getKey(), k)) {
                        open.add(Map.entry(turned(now.getKey(), k), now.getValue() + pays(now.getKey(), k, law)));
                    }
                }
            }
            return -1;
        }

        int reach(String from) {
            TreeSet<String> met = new TreeSet<>(List.of(from));
            List<String> line = new ArrayList<>(met);
            for (int i = 0; i < line.size(); i++) {
                for (int k = 1; k <= 6; k++) {
                    if (!barred(line.get(i), k) && met.add(turned(line.get(i), k))) {
                        line.add(turned(line.get(i), k));
                    }
                }
            }
            return met.size();
        }

        int closer(String name) {
            for (int k = 1; k <= 6; k++) {
                if (!barred(name, k) && turns.getOrDefault(turned(name, k), -1) == turns.get(name) - 1) {
                    return k;
                }
            }
            return -1;
        }
    }

    public static void main(String[] args) {
        all("HEADS 1", UPRIGHT_LAW, new Towers(UPRIGHT_BARS, 1));
        all("HEADS 0", ANY_HEADS_LAW, new Towers(ANY_HEADS_BARS, 0));
        all("HEADS 0, many ends", MANY_ENDS_LAW, new Towers(MANY_ENDS_BARS, 0));
        Tried.finish();
    }

    private static void all(String name, String law, Towers towers) {
        Comparator<String> byRows = Comparator.comparing(towers.rows::get);
        List<String> can = towers.turns.keySet().stream().sorted().toList();
        String most = can.stream().max(byRows).orElseThrow();
        String farthest = can.stream().max(Comparator.comparing(towers.turns::get)).orElseThrow();
        String below = can.stream().filter(t -> towers.rows.get(t).compareTo(MOST) <= 0).max(byRows).orElseThrow();
        String above = can.stream().filter(t -> towers.rows.get(t).compareTo(MOST) >= 0).min(byRows).orElseThrow();
        String never = towers.names.stream().filter(t -> !towers.turns.containsKey(t)).findFirst().orElseThrow();

        Tried.says("21: HOW MANY rows (1,000,000,000 at most), " + name);
        Tried.same("the search", towers.rows.get(most).compareTo(MOST.multiply(MOST.sqrt())) > 0, true);
        for (String tower : List.of(most, farthest, below, above, never)) {
            BigInteger rows = towers.rows.getOrDefault(tower, BigInteger.ZERO).min(MOST);
            Tried.due("many() of " + tower, built(tower, law, towers.heads).many(), rows.longValue());
        }
        for (int i = 0; i < can.size(); i += 211) {
            BigInteger rows = towers.rows.get(can.get(i)).min(MOST);
            Tried.due("many() of " + can.get(i), built(can.get(i), law, towers.heads).many(), rows.longValue());
        }

        Tried.says("20: FEWEST: how many TURNS (i NONE), the k of the i-th, " + name);
        for (String tower : List.of(most, farthest, below, above, never)) {
            firstRow(tower, built(tower, law, towers.heads), towers);
        }

        Tried.says("22, 23, 24: CHEAPEST, WORST, REACH, " + name);
        for (String tower : List.of(most, farthest, never)) {
            TurnedFloors x = built(tower, law, towers.heads);
            int worst = towers.turns.get(farthest);
            Tried.due("cheapest() of " + tower, x.cheapest(), towers.cheapest(tower, AS_GRIPPED));
            Tried.due("worst(0)", x.worst(0), worst);
            Tried.due("worst(1)", x.worst(1), towers.turns.values().stream().filter(t -> t == worst).count());
            Tried.due("worst(2)", x.worst(2), towers.turns.size());
            Tried.due("reach() of " + tower, x.reach(), towers.reach(tower));
        }

        Tried.says("22: CHEAPEST, where most TURNS pay nothing, " + name);
        for (int i = 0; i < towers.names.size(); i += 1777) {
            String tower = towers.names.get(i);
            TurnedFloors x = built(tower, law + ";" + SELDOM_PAYS_LAW, towers.heads);
            Tried.due("cheapest() of " + tower, x.cheapest(), towers.cheapest(tower, SELDOM_PAYS));
        }

        Tried.says("22: what TURNS PAY together is not held to what PAID can be, " + name);
        int turns = towers.turns.get(farthest);
        Tried.same("the search", turns * 99 > 9999, true);
        Tried.due("cheapest() at 99 a turn", built(farthest, law + "; pays 99", towers.heads).cheapest(), turns * 99L);
        walked(built(farthest, law + "; pays 99", towers.heads), turns);
    }

    private static void firstRow(String from, TurnedFloors x, Towers towers) {
        int turns = towers.turns.getOrDefault(from, -1);
        Tried.due("fewest(-1) of " + from, x.fewest(-1), turns);
        String tower = from;
        for (int i = 0; i < turns; i++) {
            int k = towers.closer(tower);
            Tried.due("fewest(" + i + ") of " + from, x.fewest(i), k);
            tower = Towers.turned(tower, k);
        }
        Tried.due("fewest(" + turns + ") of " + from, x.fewest(Math.max(0, turns)), -1);
        Tried.due("fewest(-2) of " + from, x.fewest(-2), -1);
    }

    /** The first row is truly gone, turn by turn, within the 512 calls of one object. */
    private static void walked(TurnedFloors x, int turns) {
        for (int i = 0; i < turns; i++) {
            Tried.due("turn " + i, x.turn(x.fewest(0)), 99);
        }
        Tried.due("ordered", x.count(17), 1);
        Tried.due("PAID", x.count(2), 9999);
        Tried.due("cheapest() at PAID 9,999", x.cheapest(), 0);
    }

    private static TurnedFloors built(String tower, String law, int heads) {
        TurnedFloors x = new TurnedFloors();
        for (char floor : tower.toCharArray()) {
            x.floor(Towers.rank(floor), Towers.head(floor));
        }
        x.terms(3, heads);
        x.force(Tried.law(x, law));
        return x;
    }
}
