import java.util.ArrayList;
import java.util.List;

/**
 * What the tests of the document's edges have in common. A call is tried on one of two twins that were led the same
 * way; then all that both can tell is compared, so that a call that should change nothing is seen to change nothing.
 */
final class Tried {
    /** What a call may change beside its answer. */
    static final int NOTHING = 0;
    static final int TAPE = 1;
    static final int FAULT = 2;
    static final int STOPPED = 4;

    private static final int[] REASONS = {-1, -2, -3, -5, -6};

    private static int wrong = 0;
    private static int checks = 0;
    private static int sentences = 0;
    private static String sentence = "";

    interface Lead {
        void to(TurnedFloors x);
    }

    interface Call {
        long on(TurnedFloors x);
    }

    private Tried() {
    }

    /** The sentence of the document that the checks from here on are about. */
    static void says(String words) {
        sentence = words;
        sentences++;
    }

    static void due(String call, long got, long want) {
        checks++;
        if (got != want) {
            wrong++;
            System.out.println(sentence + ": " + call + " answered " + got + ", due is " + want);
        }
    }

    static void same(String call, Object got, Object want) {
        checks++;
        if (!got.equals(want)) {
            wrong++;
            System.out.println(sentence + ": behind " + call + " there is " + got + ", due is " + want);
        }
    }

    static void finish() {
        System.out.println(sentences + " sentences, " + checks + " checks, " + wrong + " wrong");
        if (wrong != 0) {
            System.exit(1);
        }
    }

    /** REFUSED: the answer, status(), the one count that is one more, and nothing else but what may change. */
    static void refused(String name, Lead lead, Call call, int reason, int mayChange) {
        TurnedFloors x = led(lead);
        TurnedFloors twin = led(lead);
        due(name, call.on(x), reason);
        due("status() behind " + name, x.status(), reason);
        for (int i = 0; i < REASONS.length; i++) {
            int more = REASONS[i] == reason ? 1 : 0;
            due("count(" + (7 + i) + ") behind " + name, x.count(7 + i), twin.count(7 + i) + more);
        }
        if ((mayChange & TAPE) != 0) {
            due("count(6) behind " + name, x.count(6), 0);
            twin.end(0);
        }
        same(name, all(x, mayChange), all(twin, mayChange));
    }

    static void refused(String name, Lead lead, Call call, int reason) {
        refused(name, lead, call, reason, NOTHING);
    }

    /** NONE of a call that is never REFUSED: status() and all counts stay, and all else. */
    static void none(String name, Lead lead, Call call) {
        tells(name, lead, call, -1);
    }

    /** A call that tells and changes nothing at all, not even status() and what was REFUSED. */
    static void tells(String name, Lead lead, Call call, long answer) {
        TurnedFloors x = led(lead);
        TurnedFloors twin = led(lead);
        due(name, call.on(x), answer);
        due("status() behind " + name, x.status(), twin.status());
        for (int i = 0; i < REASONS.length; i++) {
            due("count(" + (7 + i) + ") behind " + name, x.count(7 + i), twin.count(7 + i));
        }
        same(name, all(x, NOTHING), all(twin, NOTHING));
    }

    /** Not REFUSED: the answer, status() 0, and no count of what was REFUSED is more. The object, to look on. */
    static TurnedFloors taken(String name, Lead lead, Call call, long answer) {
        TurnedFloors x = led(lead);
        TurnedFloors twin = led(lead);
        due(name, call.on(x), answer);
        due("status() behind " + name, x.status(), 0);
        for (int i = 0; i < REASONS.length; i++) {
            due("count(" + (7 + i) + ") behind " + name, x.count(7 + i), twin.count(7 + i));
        }
        return x;
    }

    /** A TEXT with a FAULT: -6, its place, the TAPE is empty, and for orders() nothing stopped. */
    static void fault(boolean ofOrders, String text, int place) {
        String name = (ofOrders ? "orders() of \"" : "law() of \"") + text + "\"";
        Lead lead = x -> {
            rich(x);
            x.end(0);
            lay(x, text);
        };
        refused(name, lead, x -> ofOrders ? x.orders() : x.law(), -6, TAPE | FAULT | (ofOrders ? STOPPED : 0));
        TurnedFloors x = led(lead);
        due("stopped() ahead of " + name, x.stopped(), 1);
        due(name, ofOrders ? x.orders() : x.law(), -6);
        due("fault() of " + name, x.fault(), place);
        due("stopped() behind " + name, x.stopped(), ofOrders ? -1 : 1);
    }

    static void lawFault(String text, int place) {
        fault(false, text, place);
    }

    static void ordersFault(String text, int place) {
        fault(true, text, place);
    }

    /** A TEXT that is a LAW. */
    static void lawful(String text) {
        Lead lead = x -> {
            rich(x);
            x.end(0);
            lay(x, text);
        };
        TurnedFloors x = taken("law() of \"" + text + "\"", lead, TurnedFloors::law, 2);
        due("fault() of \"" + text + "\"", x.fault(), -1);
        due("count(4) behind \"" + text + "\"", x.count(4), 3);
        due("count(6) behind \"" + text + "\"", x.count(6), 0);
        due("stopped() stays behind a law()", x.stopped(), 1);
    }

    static TurnedFloors led(Lead lead) {
        TurnedFloors x = new TurnedFloors();
        lead.to(x);
        return x;
    }

    static TurnedFloors tower(int... ranks) {
        TurnedFloors x = new TurnedFloors();
        put(x, ranks);
        return x;
    }

    static void put(TurnedFloors x, int... ranks) {
        for (int rank : ranks) {
            x.floor(rank, 0);
        }
    }

    /** Lays a text on the tape behind what is there. */
    static void lay(TurnedFloors x, String text) {
        int had = x.count(6);
        for (int from = 0; from < text.length(); from += 20) {
            int[] n = new int[5];
            for (int i = 0; i < 20; i++) {
                n[i / 4] = n[i / 4] << 8 | (from + i < text.length() ? text.charAt(from + i) : 0);
            }
            x.feed(n[0], n[1], n[2], n[3], n[4]);
        }
        x.end(had + text.length());
    }

    static int law(TurnedFloors x, String text) {
        lay(x, text);
        return x.law();
    }

    static int orders(TurnedFloors x, String text) {
        lay(x, text);
        return x.orders();
    }

    static TurnedFloors ruled(String text, int... ranks) {
        TurnedFloors x = tower(ranks);
        x.force(law(x, text));
        return x;
    }

    /** What the one TURN of a tower of one FLOOR pays under a law; its RANK is 0, it is upright. */
    static int paysOf(String text) {
        return ruled(text, 0).asks(1, 0);
    }

    static int barsOf(String text) {
        return ruled(text, 0).asks(1, 1);
    }

    /** The RANKS from the top; ' behind one that is on its HEAD. */
    static String stands(TurnedFloors x) {
        StringBuilder b = new StringBuilder();
        int floors = x.count(0);
        for (int i = 0; i < floors; i++) {
            b.append(x.at(i, 0)).append(x.at(i, 1) == 1 ? "'" : "");
        }
        return b.toString();
    }

    /** A scene in which nothing is as it is at first, and status() is not 0. */
    static void rich(TurnedFloors x) {
        x.floor(4, 0);
        x.floor(1, 1);
        law(x, "pays grip*2; bars if grip=2 and head=1; tips if place=1");
        law(x, "pays 7+mood; bars if top=3 and grip=3; tips if rank=4");
        x.seen(1, 4);
        x.image(0);
        x.force(1);
        x.terms(0, 5);
        x.terms(1, 3);
        x.terms(2, 4);
        x.terms(3, 1);
        x.seen(0, 1);
        lay(x, "\u0003\u0000\u0000\u0001\u0009\u0000\u0002");
        x.row();
        x.image(1);
        x.years(11, 4);
        x.turn(1);
        x.right(2);
        x.swap(0);
        x.pass();
        orders(x, "pass; turn 6");
        law(x, "bars it");
        lay(x, "\u0005\u0001\u0005");
    }

    /** What an object tells, and then what it tells when it is led on, undone, gone back to; below 512 calls in all. */
    private static List<Long> all(TurnedFloors x, int mayChange) {
        List<Long> told = new ArrayList<>();
        look(x, told);
        told.add((mayChange & FAULT) != 0 ? 0L : x.fault());
        told.add((mayChange & STOPPED) != 0 ? 0L : x.stopped());
        told.add((long) x.bricks());
        for (int place = 0; place < 6; place++) {
            told.add((long) x.drawn(place, 0));
            told.add((long) x.drawn(place, 1));
        }
        for (int i = 0; i < 16 && x.count(5) > 0; i++) {
            told.add((long) x.undo());
            told.add(((x.at(0, 0) * 8L + x.count(1)) * 10_000 + x.count(2)) * 1000 + x.count(13));
        }
        told.add((long) x.row());
        told.add((long) x.bricks());
        told.add((long) stands(x).hashCode());
        for (int k = 0; k < 2; k++) {
            told.add((long) x.back(k));
            look(x, told);
        }
        return told;
    }

    private static void look(TurnedFloors x, List<Long> told) {
        told.add((long) stands(x).hashCode());
        for (int what = 0; what < 18; what++) {
            if (what < 7 || what > 11) {
                told.add((long) x.count(what));
            }
        }
        told.add((long) x.was());
        told.add(x.few(3, 7));
        int inForce = x.count(12);
        int laws = x.count(4);
        int floors = x.count(0);
        for (int law = 0; law < laws; law++) {
            x.force(law);
            for (int k = 1; k <= floors; k++) {
                told.add((long) x.asks(k, 0) * 4 + x.asks(k, 1) * 2 + x.at(k - 1, 2));
            }
        }
        x.force(inForce);
    }
}
