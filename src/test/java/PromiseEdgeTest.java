/** Promises 1 to 40, and what is worked out on paper (Terms III, IV): each sentence that names an edge. */
public final class PromiseEdgeTest {
    private static final int LEAST = Integer.MIN_VALUE;
    private static final int GREATEST = Integer.MAX_VALUE;
    private static final long WHOLE = 1_000_000_000_000L;

    public static void main(String[] args) {
        newObject();
        floorAndAt();
        asks();
        terms();
        feed();
        end();
        row();
        bricks();
        law();
        orders();
        fault();
        stopped();
        force();
        turnRightSwap();
        undo();
        undoKept();
        fewest();
        many();
        cheapest();
        worst();
        reach();
        gaps();
        comes();
        view();
        stays();
        seenAndForget();
        was();
        look();
        few();
        compare();
        years();
        yearsRun();
        drawn();
        image();
        back();
        notKept();
        count();
        status();
        statusLeft();
        Tried.finish();
    }

    private static void nothing(TurnedFloors x) {
        Tried.due("count(0)", x.count(0), 0);
    }

    private static void six(TurnedFloors x) {
        Tried.put(x, 5, 4, 3, 2, 1, 0);
    }

    /** The rich scene, its TAPE empty, so that a TEXT can be laid. */
    private static void bare(TurnedFloors x) {
        Tried.rich(x);
        x.end(0);
    }

    private static void newObject() {
        Tried.says("1: A tower without floors");
        TurnedFloors x = new TurnedFloors();
        int[] first = {0, 0, 0, 0, 0, 0, 0, 0, 0, 0, 0, 0, -1, 0, 1, 0, 0, 1};
        for (int what = 0; what < first.length; what++) {
            Tried.due("count(" + what + ")", x.count(what), first[what]);
        }
        Tried.due("status()", x.status(), 0);
        Tried.due("fault()", x.fault(), -1);
        Tried.due("stopped()", x.stopped(), -1);
        Tried.due("bricks()", x.bricks(), 0);
        for (int place = -1; place <= 6; place++) {
            for (int what = -1; what <= 3; what++) {
                Tried.due("at(" + place + ", " + what + ")", x.at(place, what), -1);
                Tried.due("drawn(" + place + ", " + what + ")", x.drawn(place, what), -1);
                Tried.due("asks(" + place + ", " + what + ")", x.asks(place, what), -1);
            }
            Tried.due("view(" + place + ")", x.view(place), -1);
        }
        Tried.refused("turn(1)", PromiseEdgeTest::nothing, y -> y.turn(1), -3);
        Tried.refused("right(0)", PromiseEdgeTest::nothing, y -> y.right(0), -3);
        Tried.refused("swap(0)", PromiseEdgeTest::nothing, y -> y.swap(0), -3);
        Tried.refused("undo()", PromiseEdgeTest::nothing, TurnedFloors::undo, -3);
        Tried.refused("row()", PromiseEdgeTest::nothing, TurnedFloors::row, -6);
        Tried.refused("force(0)", PromiseEdgeTest::nothing, y -> y.force(0), -2);
        Tried.refused("back(0)", PromiseEdgeTest::nothing, y -> y.back(0), -2);
        Tried.refused("back(1)", PromiseEdgeTest::nothing, y -> y.back(1), -2);
        Tried.refused("years(0, 1)", PromiseEdgeTest::nothing, y -> y.years(0, 1), -3);
        Tried.taken("pass()", PromiseEdgeTest::nothing, TurnedFloors::pass, 0);
        Tried.taken("force(-1)", PromiseEdgeTest::nothing, y -> y.force(-1), -1);
    }

    private static void floorAndAt() {
        Tried.says("2: A FLOOR below the others: its PLACE");
        TurnedFloors x = new TurnedFloors();
        for (int place = 0; place < 6; place++) {
            Tried.due("floor()", x.floor((place + 3) % 6, place % 2), place);
            Tried.due("count(0)", x.count(0), place + 1);
            Tried.due("count(1)", x.count(1), (place + 1) / 2);
        }
        Tried.same("six floors", Tried.stands(x), "34'50'12'");

        Tried.says("3: at: NONE");
        for (int place : new int[] {-1, 4, 5, 6, LEAST, GREATEST}) {
            for (int what = 0; what < 3; what++) {
                int one = what;
                Tried.none("at(" + place + ", " + what + ")", Tried::rich, y -> y.at(place, one));
            }
        }
        for (int what : new int[] {-1, 3, LEAST, GREATEST}) {
            Tried.none("at(0, " + what + ")", Tried::rich, y -> y.at(0, what));
            Tried.none("at(3, " + what + ")", Tried::rich, y -> y.at(3, what));
            Tried.none("at(4, " + what + ")", Tried::rich, y -> y.at(4, what));
        }
        Tried.says("3: At a PLACE the RANK, whether on its HEAD, whether it TIPS");
        int[][] told = {{1, 1, 0}, {4, 0, 1}, {3, 1, 0}, {0, 1, 0}};
        for (int place = 0; place < told.length; place++) {
            for (int what = 0; what < 3; what++) {
                int where = place;
                int one = what;
                Tried.tells("at(" + place + ", " + what + ")", Tried::rich, y -> y.at(where, one), told[place][what]);
            }
        }
    }

    private static void asks() {
        Tried.says("4: asks: NONE (more than there are, too)");
        for (int k : new int[] {0, 5, 6, 7, -1, LEAST, GREATEST}) {
            Tried.none("asks(" + k + ", 0)", Tried::rich, x -> x.asks(k, 0));
            Tried.none("asks(" + k + ", 1)", Tried::rich, x -> x.asks(k, 1));
        }
        for (int what : new int[] {-1, 2, LEAST, GREATEST}) {
            Tried.none("asks(1, " + what + ")", Tried::rich, x -> x.asks(1, what));
            Tried.none("asks(4, " + what + ")", Tried::rich, x -> x.asks(4, what));
        }
        Tried.says("4: Of a TURN of k now what it PAYS, whether BARRED");
        Tried.tells("asks(1, 0)", Tried::rich, x -> x.asks(1, 0), 11);
        Tried.tells("asks(4, 0)", Tried::rich, x -> x.asks(4, 0), 11);
        Tried.tells("asks(4, 1)", Tried::rich, x -> x.asks(4, 1), 0);
        Tried.Lead barred = x -> {
            bare(x);
            x.force(0);
        };
        Tried.tells("asks(2, 0) of one that is barred", barred, x -> x.asks(2, 0), 4);
        Tried.tells("asks(2, 1)", barred, x -> x.asks(2, 1), 1);
        Tried.tells("asks(6, 0) of six", PromiseEdgeTest::six, x -> x.asks(6, 0), 6);
        Tried.tells("asks(6, 1) of six", PromiseEdgeTest::six, x -> x.asks(6, 1), 0);
    }

    private static void terms() {
        Tried.says("5: A TERM: what it was");
        TurnedFloors x = Tried.led(Tried::rich);
        Tried.due("terms(2, 4), the same again", x.terms(2, 4), 4);
        Tried.due("terms(2, 9)", x.terms(2, 9), 4);
        Tried.due("terms(2, 10)", x.terms(2, 10), -1);
        Tried.due("terms(2, 0): what the refused one left", x.terms(2, 0), 9);
        Tried.due("terms(0, 999): the YEAR that passed", x.terms(0, 999), 6);
    }

    private static void feed() {
        Tried.says("6: Twenty bytes come behind the TAPE, four of each number, the highest first");
        TurnedFloors x = new TurnedFloors();
        Tried.due("feed()", x.feed(0x06000500, 0x04010300, 0x02010100, 0x00010000, 0x00000000), 20);
        Tried.due("row()", x.row(), 6);
        Tried.due("bricks()", x.bricks(), 4);
        Tried.same("row()", Tried.stands(x), "54'32'10'");
        x = new TurnedFloors();
        // Only the pair told is no brick: its place on the tape is where it must be.
        for (int pair = 0; pair < 10; pair++) {
            int[] n = {-1, -1, -1, -1, -1};
            n[pair / 2] = pair % 2 == 0 ? 0x0301ffff : 0xffff0301;
            x = new TurnedFloors();
            x.feed(n[0], n[1], n[2], n[3], n[4]);
            Tried.due("end()", x.end(2 * pair + 1), 2 * pair + 1);
            x.image(0);
            Tried.due("row() that ends within it", x.row(), 0);
            x.feed(n[0], n[1], n[2], n[3], n[4]);
            x.end(2 * pair + 2);
            Tried.due("row() that ends behind it", x.row(), 1);
            Tried.due("bricks()", x.bricks(), pair);
            Tried.same("row()", Tried.stands(x), "3'");
        }
        Tried.says("6: a byte is 0 .. 255");
        x = new TurnedFloors();
        x.feed(0x80000081, 0x00ff0180, 0x04ff0400, 0xff01fe01, LEAST);
        Tried.due("row()", x.row(), 2);
        Tried.due("bricks()", x.bricks(), 8);
        Tried.same("row()", Tried.stands(x), "40");

        Tried.says("6: how many it has. NONE, if there would be more than 400");
        x = new TurnedFloors();
        for (int had = 0; had < 400; had += 20) {
            Tried.due("feed()", x.feed(-1, -1, -1, -1, -1), had + 20);
        }
        Tried.due("feed() of the 401st", x.feed(-1, -1, -1, -1, -1), -1);
        Tried.due("count(6)", x.count(6), 400);
        Tried.due("status()", x.status(), 0);
        Tried.due("count(10)", x.count(10), 0);
        x.end(380);
        Tried.due("feed() to just 400", x.feed(0x05000000, 0, 0, 0, 0), 400);
        x.row();
        Tried.same("row(), those fed last", Tried.stands(x), "50");
        x = new TurnedFloors();
        for (int i = 0; i < 20; i++) {
            x.feed(-1, -1, -1, -1, -1);
        }
        x.end(381);
        Tried.due("feed() behind 381", x.feed(0x05000000, 0, 0, 0, 0), -1);
        Tried.due("row(), nothing of it came", x.row(), 0);
    }

    private static void end() {
        Tried.says("7: The TAPE has its first n bytes alone: n");
        for (int n = 0; n <= 3; n++) {
            int first = n;
            TurnedFloors x = Tried.led(Tried::rich);
            Tried.due("end(" + n + ")", x.end(first), n);
            Tried.due("count(6)", x.count(6), n);
            Tried.due("status() stays", x.status(), -6);
            Tried.due("row()", x.row(), new int[] {-6, 0, 1, 1}[n]);
        }
        Tried.says("7: NONE, if it has not so many, or n is below 0");
        for (int n : new int[] {4, 20, 400, 401, -1, LEAST, GREATEST}) {
            Tried.none("end(" + n + ")", Tried::rich, x -> x.end(n));
        }
        Tried.none("end(1) of an empty one", PromiseEdgeTest::nothing, x -> x.end(1));
        Tried.tells("end(0) of an empty one", PromiseEdgeTest::nothing, x -> x.end(0), 0);
        Tried.tells("end(3) of all three", Tried::rich, x -> x.end(3), 3);
    }

    private static void row() {
        Tried.says("8: -6 the TAPE is empty");
        Tried.refused("row()", PromiseEdgeTest::bare, TurnedFloors::row, -6);
        Tried.refused("row() behind a row()", x -> {
            Tried.rich(x);
            x.row();
            x.right(0);
        }, TurnedFloors::row, -6);
        Tried.says("8: A ROW, the TAPE is empty then: how many FLOORS came");
        TurnedFloors x = Tried.taken("row()", Tried::rich, TurnedFloors::row, 1);
        Tried.due("count(6)", x.count(6), 0);
        Tried.due("bricks()", x.bricks(), 1);
        Tried.due("count(5): nothing can be undone", x.count(5), 0);
        Tried.due("fault() stays", x.fault(), 5);
        Tried.due("stopped() stays", x.stopped(), 1);
        Tried.same("row()", Tried.stands(x), "1'43'0'5'");
        x = Tried.taken("row() of one byte", y -> {
            bare(y);
            Tried.lay(y, "\u0005");
        }, TurnedFloors::row, 0);
        Tried.due("bricks()", x.bricks(), 1);
        Tried.due("count(6)", x.count(6), 0);
        Tried.due("count(5): nothing can be undone", x.count(5), 0);
    }

    private static void brick(String bytes, int came, int bricks) {
        TurnedFloors x = Tried.led(PromiseEdgeTest::bare);
        Tried.lay(x, bytes);
        Tried.due("row()", x.row(), came);
        Tried.due("bricks()", x.bricks(), bricks);
        Tried.due("count(0)", x.count(0), 4 + came);
        Tried.due("status()", x.status(), 0);
    }

    private static void bricks() {
        Tried.says("IV: one that can't be (a RANK that is there, too) is a BRICK");
        brick("\u0005\u0000", 1, 0);
        brick("\u0006\u0000", 0, 1);
        brick("\u00ff\u0000", 0, 1);
        brick("\u0080\u0000", 0, 1);
        brick("\u0005\u0001", 1, 0);
        brick("\u0005\u0002", 0, 1);
        brick("\u0005\u00ff", 0, 1);
        for (char rank : "\u0000\u0001\u0003\u0004".toCharArray()) {
            brick(rank + "\u0000", 0, 1);
        }
        brick("\u0002\u0000\u0002\u0000", 1, 1);
        brick("\u0002\u0007\u0002\u0000", 1, 1);
        Tried.says("IV: one within which the TAPE ends is a BRICK");
        brick("\u0005", 0, 1);
        brick("\u0005\u0000\u0002", 1, 1);
        brick("\u0006", 0, 1);
        Tried.says("IV: one for which there is no room is a BRICK");
        brick("\u0005\u0000\u0002\u0001", 2, 0);
        brick("\u0005\u0000\u0002\u0001\u0005\u0000", 2, 1);
        brick("\u0006\u0000\u0005\u0000\u0009\u0009\u0002\u0001\u0000", 2, 3);
        Tried.says("9: How many BRICKS the latest row() had that was not REFUSED (0 ahead of any)");
        TurnedFloors x = new TurnedFloors();
        Tried.due("bricks()", x.bricks(), 0);
        x.row();
        Tried.due("bricks(), one refused", x.bricks(), 0);
        Tried.lay(x, "zz");
        x.row();
        Tried.due("bricks()", x.bricks(), 1);
        x.row();
        Tried.due("bricks(), one refused", x.bricks(), 1);
        Tried.lay(x, "\u0001\u0000");
        x.row();
        Tried.due("bricks(), none", x.bricks(), 0);
        Tried.tells("bricks()", Tried::rich, TurnedFloors::bricks, 2);
    }

    private static void law() {
        Tried.says("10: The TAPE, which is empty then, becomes a LAW: its number");
        TurnedFloors x = new TurnedFloors();
        for (int i = 0; i < 6; i++) {
            Tried.due("law()", Tried.law(x, "pays " + i), i);
            Tried.due("count(6)", x.count(6), 0);
            Tried.due("count(4)", x.count(4), i + 1);
            Tried.due("count(12): none by itself", x.count(12), -1);
        }
        Tried.says("10: -5 (ahead of reading it; the TAPE is empty then, too)");
        for (String text : new String[] {"pays 1", "pays", "", "   "}) {
            Tried.refused("law() of \"" + text + "\"", y -> {
                bare(y);
                for (int i = 2; i < 6; i++) {
                    Tried.law(y, "bars if grip = " + i);
                }
                Tried.law(y, "what");
                Tried.orders(y, "turn");
                Tried.lay(y, text);
            }, TurnedFloors::law, -5, Tried.TAPE);
        }
        Tried.lay(x, "pays");
        x.law();
        Tried.due("fault(), not read", x.fault(), -1);
        Tried.says("10: -6 (blanks alone: FAULT at the end)");
        Tried.lawFault("", 0);
        Tried.lawFault(" ", 1);
        Tried.lawFault(" ".repeat(400), 400);
        x = new TurnedFloors();
        Tried.law(x, "pays");
        Tried.due("law(): the number of one behind a FAULT", Tried.law(x, "pays 1"), 0);
        Tried.says("10, 11: a long TEXT behind many long ones is read as the first");
        String longSum = "1" + "+1".repeat(49);
        String cutSum = "1" + "+1".repeat(48) + "+";
        x = Tried.tower(0);
        x.image(0);
        for (int i = 0; i < 24; i++) {
            Tried.due("law(), 50 PARTS", Tried.law(x, "pays " + longSum), 0);
            x.force(0);
            Tried.due("asks(1, 0)", x.asks(1, 0), 50);
            Tried.due("orders(), 50 PARTS", Tried.orders(x, "turn " + longSum.replace("+1", "*1")), 1);
            Tried.due("law(), it ends too early", Tried.law(x, "pays " + cutSum), -6);
            Tried.due("fault()", x.fault(), 5 + cutSum.length());
            x.back(0);
        }
    }

    private static void orders() {
        Tried.says("11: ORDERS, the TAPE is empty then: how many were run");
        Tried.Lead lead = x -> {
            bare(x);
            Tried.lay(x, "pass if 1 = 2");
        };
        TurnedFloors x = Tried.taken("orders() none of which is run", lead, TurnedFloors::orders, 0);
        Tried.due("count(6)", x.count(6), 0);
        Tried.due("fault()", x.fault(), -1);
        Tried.due("stopped()", x.stopped(), -1);
        Tried.due("count(5): it can still be undone", x.count(5), 4);
        x = Tried.tower(0, 1, 2, 3, 4, 5);
        Tried.due("240 turns", Tried.orders(x, "turn 6 times 20;".repeat(11) + "turn 6 times 20"), 240);
        Tried.due("count(2)", x.count(2), 1440);
        Tried.due("count(5)", x.count(5), 16);
        Tried.same("240 turns", Tried.stands(x), "012345");
        Tried.says("11: -3 one can't be");
        Tried.refused("orders()", y -> {
            bare(y);
            Tried.lay(y, "pass; turn 9");
        }, TurnedFloors::orders, -3, Tried.TAPE | Tried.FAULT | Tried.STOPPED);
        Tried.says("11: -6 (as for law())");
        Tried.ordersFault("", 0);
        Tried.ordersFault(" ", 1);
        Tried.ordersFault(" ".repeat(400), 400);
        Tried.ordersFault("pass; pass; pas", 12);
    }

    private static void fault() {
        Tried.says("12: FAULT of the latest law(), orders() that read a TEXT: its place; NONE without");
        TurnedFloors x = Tried.tower(0);
        Tried.due("fault() at first", x.fault(), -1);
        Tried.law(x, "pays 1 ?");
        Tried.due("fault() of law()", x.fault(), 7);
        Tried.orders(x, "pass ?");
        Tried.due("fault() of orders()", x.fault(), 5);
        x.row();
        x.turn(9);
        Tried.due("fault() behind other calls", x.fault(), 5);
        Tried.orders(x, "turn 9");
        Tried.due("fault() of orders() that can't be", x.fault(), -1);
        Tried.law(x, "?");
        Tried.due("fault() at the first byte", x.fault(), 0);
        Tried.orders(x, "pass");
        Tried.due("fault() of orders() that were run", x.fault(), -1);
        Tried.orders(x, "");
        Tried.law(x, "bars");
        Tried.due("fault() of a law() without", x.fault(), -1);
        for (int i = 1; i < 6; i++) {
            Tried.law(x, "bars");
        }
        Tried.orders(x, "pass;");
        Tried.law(x, "bars");
        Tried.due("fault(), the law() not read", x.fault(), 5);
        Tried.tells("fault()", Tried::rich, TurnedFloors::fault, 5);
    }

    private static void stopped() {
        Tried.says("13: Which CLAUSE of the latest orders() could not be. NONE");
        TurnedFloors x = Tried.tower(0);
        Tried.due("stopped() at first", x.stopped(), -1);
        for (int clause = 0; clause < 12; clause++) {
            String text = "pass;".repeat(clause) + "turn 2" + ";pass".repeat(11 - clause);
            Tried.due("orders()", Tried.orders(x, text), -3);
            Tried.due("stopped()", x.stopped(), clause);
            Tried.due("count(13)", x.count(13), 0);
        }
        x.turn(2);
        Tried.law(x, "pays");
        Tried.due("stopped() behind other calls", x.stopped(), 11);
        Tried.orders(x, "turn 1");
        Tried.due("stopped() of orders() that were run", x.stopped(), -1);
        Tried.orders(x, "turn 2");
        Tried.orders(x, "turn");
        Tried.due("stopped() of orders() with a FAULT", x.stopped(), -1);
        Tried.tells("stopped()", Tried::rich, TurnedFloors::stopped, 1);
    }

    private static void force() {
        Tried.says("14: A LAW is in FORCE (NONE: none): which was");
        TurnedFloors x = Tried.taken("force(0)", Tried::rich, y -> y.force(0), 1);
        Tried.due("count(12)", x.count(12), 0);
        Tried.due("asks(2, 0)", x.asks(2, 0), 4);
        Tried.due("count(5): it can still be undone", x.count(5), 4);
        Tried.due("force(-1)", x.force(-1), 0);
        Tried.due("force(-1) again", x.force(-1), -1);
        Tried.due("asks(2, 0)", x.asks(2, 0), 2);
        Tried.due("force(1)", x.force(1), -1);
        Tried.due("force(1) again", x.force(1), 1);
        Tried.says("14: -2");
        for (int law : new int[] {2, 3, 5, 6, -2, LEAST, GREATEST}) {
            Tried.refused("force(" + law + ")", Tried::rich, y -> y.force(law), -2);
        }
        Tried.refused("force() of a law() behind back()", y -> {
            bare(y);
            Tried.law(y, "pays 3");
            y.back(1);
        }, y -> y.force(2), -2);
    }

    private static void turnRightSwap() {
        Tried.says("15: To TURN k: what it PAYS. -1 (k); -3 (more than there are; BARRED)");
        Tried.same("turn(4)", Tried.stands(Tried.taken("turn(4)", Tried::rich, x -> x.turn(4), 11)), "034'1");
        Tried.refused("turn(5)", Tried::rich, x -> x.turn(5), -3);
        Tried.refused("turn(6)", Tried::rich, x -> x.turn(6), -3);
        Tried.refused("turn(7)", Tried::rich, x -> x.turn(7), -1);
        Tried.refused("turn(0)", Tried::rich, x -> x.turn(0), -1);
        Tried.refused("turn(2) barred", x -> {
            Tried.rich(x);
            x.force(0);
        }, x -> x.turn(2), -3);

        Tried.says("16: To RIGHT the FLOOR at a PLACE 0 .. 5: whether it is on its HEAD then (1, 0). -1; -3");
        int[] then = {0, 1, 0, 0};
        for (int place = 0; place < 4; place++) {
            int one = place;
            TurnedFloors x = Tried.taken("right(" + place + ")", Tried::rich, y -> y.right(one), then[place]);
            Tried.due("at(" + place + ", 1)", x.at(place, 1), then[place]);
            Tried.due("count(2), nothing paid", x.count(2), 11);
        }
        Tried.refused("right(4)", Tried::rich, x -> x.right(4), -3);
        Tried.refused("right(5)", Tried::rich, x -> x.right(5), -3);
        for (int place : new int[] {6, -1, LEAST, GREATEST}) {
            Tried.refused("right(" + place + ")", Tried::rich, x -> x.right(place), -1);
        }
        Tried.taken("right(5) of six", PromiseEdgeTest::six, x -> x.right(5), 1);

        Tried.says("17: To SWAP that at a PLACE 0 .. 4 and that below it: the RANK there then. -1; -3");
        int[] there = {4, 3, 0};
        for (int place = 0; place < 3; place++) {
            int one = place;
            TurnedFloors x = Tried.taken("swap(" + place + ")", Tried::rich, y -> y.swap(one), there[place]);
            Tried.due("at(" + place + ", 0)", x.at(place, 0), there[place]);
            Tried.due("count(2), nothing paid", x.count(2), 11);
        }
        Tried.refused("swap(3), none below", Tried::rich, x -> x.swap(3), -3);
        Tried.refused("swap(4)", Tried::rich, x -> x.swap(4), -3);
        for (int place : new int[] {5, 6, -1, LEAST, GREATEST}) {
            Tried.refused("swap(" + place + ")", Tried::rich, x -> x.swap(place), -1);
        }
        Tried.taken("swap(4) of six", PromiseEdgeTest::six, x -> x.swap(4), 0);
        Tried.refused("swap(0) of one", x -> x.floor(0, 0), x -> x.swap(0), -3);

        Tried.says("18: A YEAR: how many TIPPED. -3");
        TurnedFloors x = Tried.taken("pass()", Tried::rich, TurnedFloors::pass, 1);
        Tried.due("count(13)", x.count(13), 7);
        Tried.same("pass()", Tried.stands(x), "1'4'3'0'");
        Tried.refused("pass() at 999", y -> {
            Tried.rich(y);
            y.terms(0, 999);
        }, TurnedFloors::pass, -3);
    }

    private static void undo() {
        Tried.says("19: The latest turn(), right(), swap(), pass() is undone: 0 .. 3");
        TurnedFloors x = Tried.led(Tried::rich);
        String[] towers = {"1'4'3'0'", "4'1'3'0'", "4'1'30'", "41'30'"};
        int[] kinds = {3, 2, 1, 0};
        int[] paid = {11, 11, 11, 0};
        for (int i = 0; i < 4; i++) {
            Tried.due("undo()", x.undo(), kinds[i]);
            Tried.due("status()", x.status(), 0);
            Tried.same("undo()", Tried.stands(x), towers[i]);
            Tried.due("count(2)", x.count(2), paid[i]);
            Tried.due("count(13)", x.count(13), 5);
            Tried.due("count(5)", x.count(5), 3 - i);
        }
        Tried.says("19: -3 there is none");
        Tried.due("undo()", x.undo(), -3);
        Tried.due("status()", x.status(), -3);
        Tried.same("undo()", Tried.stands(x), "41'30'");
        Tried.refused("undo()", y -> {
            bare(y);
            for (int i = 0; i < 4; i++) {
                y.undo();
            }
        }, TurnedFloors::undo, -3);

        Tried.says("19: (by ORDERS, too)");
        x = Tried.tower(2, 0, 1);
        Tried.orders(x, "turn 2; right 1; swap 0; pass");
        x.turn(1);
        int[] all = {0, 3, 2, 1, 0};
        for (int i = 0; i < all.length; i++) {
            Tried.due("undo()", x.undo(), all[i]);
        }
        Tried.same("undo()", Tried.stands(x), "201");
        Tried.due("undo()", x.undo(), -3);

        Tried.says("19: (16 are kept)");
        for (int moves : new int[] {15, 16, 17, 40}) {
            x = Tried.tower(0);
            for (int i = 0; i < moves; i++) {
                x.pass();
            }
            int kept = Math.min(16, moves);
            Tried.due("count(5) behind " + moves, x.count(5), kept);
            for (int i = 0; i < kept; i++) {
                Tried.due("undo()", x.undo(), 3);
            }
            Tried.due("count(13)", x.count(13), moves - kept);
            Tried.due("undo() of one more", x.undo(), -3);
            Tried.due("count(13)", x.count(13), moves - kept);
        }
        x = Tried.tower(0, 1);
        Tried.orders(x, "turn 1; right 1; swap 0; pass; right 0 times 12; swap 0");
        Tried.due("undo() of the last", x.undo(), 2);
        for (int i = 0; i < 12; i++) {
            Tried.due("undo()", x.undo(), 1);
        }
        Tried.due("undo() of the fourth", x.undo(), 3);
        Tried.due("undo() of the third", x.undo(), 2);
        Tried.due("undo() of the second, the first that is kept", x.undo(), 1);
        Tried.due("undo() of the first", x.undo(), -3);
        Tried.same("undo()", Tried.stands(x), "0'1");
        Tried.due("count(2)", x.count(2), 1);
        x = Tried.tower(0);
        Tried.orders(x, "pass times 20");
        x.undo();
        x.undo();
        Tried.due("count(5) behind two undone", x.count(5), 14);
        Tried.orders(x, "right 0 times 3");
        Tried.due("count(5) behind three more", x.count(5), 16);
        Tried.due("undo()", x.undo(), 1);
    }

    private static void keeps(String name, Tried.Call call, int answer, int kept) {
        TurnedFloors x = Tried.led(Tried::rich);
        Tried.due("count(5)", x.count(5), 4);
        Tried.due(name, call.on(x), answer);
        Tried.due("count(5) behind " + name, x.count(5), kept);
        Tried.due("undo() behind " + name, x.undo(), kept == 0 ? -3 : kept == 5 ? 1 : 3);
    }

    private static void undoKept() {
        Tried.says("19: nothing that was ahead of a floor(), terms(), row() that was not REFUSED can be undone");
        keeps("floor(2, 0)", x -> x.floor(2, 0), 4, 0);
        keeps("floor(1, 0)", x -> x.floor(1, 0), -3, 4);
        keeps("floor(6, 0)", x -> x.floor(6, 0), -1, 4);
        keeps("terms(1, 10)", x -> x.terms(1, 10), 3, 0);
        keeps("terms(1, 3), the same", x -> x.terms(1, 3), 3, 0);
        keeps("terms(1, 11)", x -> x.terms(1, 11), -1, 4);
        keeps("terms(4, 0)", x -> x.terms(4, 0), -1, 4);
        keeps("row()", TurnedFloors::row, 1, 0);
        keeps("row() refused", x -> {
            x.end(0);
            return x.row();
        }, -6, 4);
        Tried.says("19: other calls leave what can be undone");
        keeps("force(0)", x -> x.force(0), 1, 4);
        keeps("seen(0, 0)", x -> x.seen(0, 0), 3, 4);
        keeps("forget()", TurnedFloors::forget, 2, 4);
        keeps("image(0)", x -> x.image(0), 0, 4);
        keeps("years(1, 60)", x -> x.years(1, 60) * 0, 0, 4);
        keeps("turn(9)", x -> x.turn(9), -1, 4);
        keeps("turn(5)", x -> x.turn(5), -3, 4);
        keeps("right(4)", x -> x.right(4), -3, 4);
        keeps("swap(3)", x -> x.swap(3), -3, 4);
        keeps("back(2)", x -> x.back(2), -1, 4);
        keeps("right(0)", x -> x.right(0), 0, 5);
        keeps("law() with a FAULT", TurnedFloors::law, -6, 4);
        keeps("orders() with a FAULT", TurnedFloors::orders, -6, 4);
        keeps("orders() that can't be", x -> {
            x.end(0);
            return Tried.orders(x, "pass times 20; turn 9");
        }, -3, 4);
        keeps("law()", x -> {
            x.end(0);
            return Tried.law(x, "bars");
        }, 2, 4);
        Tried.says("IV: what can be undone (nothing, behind back())");
        keeps("back(0)", x -> x.back(0), 0, 0);
        keeps("back(1)", x -> x.back(1), 0, 0);
    }

    private static void fewest() {
        Tried.says("20: FEWEST: how many TURNS (i NONE), the k of the i-th. NONE (it can't be)");
        Tried.tells("fewest(-1) of no floors", PromiseEdgeTest::nothing, x -> x.fewest(-1), 0);
        Tried.none("fewest(0) of no floors", PromiseEdgeTest::nothing, x -> x.fewest(0));
        Tried.Lead three = x -> Tried.put(x, 5, 3, 4);
        Tried.tells("fewest(-1)", three, x -> x.fewest(-1), 2);
        Tried.tells("fewest(0)", three, x -> x.fewest(0), 3);
        Tried.tells("fewest(1), the last", three, x -> x.fewest(1), 2);
        for (int i : new int[] {2, 3, -2, LEAST, GREATEST}) {
            Tried.none("fewest(" + i + ")", three, x -> x.fewest(i));
        }
        Tried.Lead barred = x -> {
            three.to(x);
            x.force(Tried.law(x, "bars if grip = 3"));
        };
        for (int i = -1; i < 3; i++) {
            int one = i;
            Tried.none("fewest(" + i + "), it can't be", barred, x -> x.fewest(one));
        }
        Tried.Lead ordered = x -> {
            Tried.put(x, 3, 4, 5);
            x.force(Tried.law(x, "bars"));
        };
        Tried.tells("fewest(-1), ordered, all barred", ordered, x -> x.fewest(-1), 0);
        Tried.none("fewest(0), ordered, all barred", ordered, x -> x.fewest(0));
        Tried.says("III: the first such row");
        // All on their heads in their order: 12 turns for six, by turning 6 and 5 in turn or others; it must end upright.
        Tried.Lead heads = x -> {
            for (int rank = 0; rank < 6; rank++) {
                x.floor(rank, 1);
            }
            x.terms(3, 1);
        };
        TurnedFloors x = Tried.led(heads);
        Tried.due("fewest(-1) of the worst", x.fewest(-1), 12);
        for (int i = 0; i < 12; i++) {
            int k = x.fewest(0);
            for (int less = 1; less < k; less++) {
                x.turn(less);
                Tried.due("fewest(-1) by a lesser k is no less", x.fewest(-1) < 12 - i ? 1 : 0, 0);
                x.undo();
            }
            Tried.due("the first row goes on as it was told", k, Tried.led(heads).fewest(i));
            x.turn(k);
            Tried.due("fewest(-1) behind one more", x.fewest(-1), 11 - i);
        }
        Tried.due("count(17)", x.count(17), 1);
        Tried.due("fewest(12)", Tried.led(heads).fewest(12), -1);

        Tried.says("III: (On paper, by TURNS not BARRED, YEAR as now)");
        TurnedFloors y = Tried.ruled("bars if grip = 3 and year = 6", 5, 3, 4);
        y.terms(0, 5);
        Tried.due("fewest(-1) a year ahead", y.fewest(-1), 2);
        y.pass();
        Tried.due("fewest(-1) in that year", y.fewest(-1), -1);
        Tried.due("many() in that year", y.many(), 0);
        Tried.due("cheapest() in that year", y.cheapest(), -1);
        y.pass();
        Tried.due("fewest(-1) a year behind", y.fewest(-1), 2);
        Tried.same("fewest(), on paper", Tried.stands(y), "534");
    }

    private static void many() {
        Tried.says("21: HOW MANY rows (it can't be: 0)");
        Tried.tells("many() of no floors", PromiseEdgeTest::nothing, TurnedFloors::many, 1);
        Tried.tells("many() of one", x -> x.floor(3, 1), TurnedFloors::many, 1);
        Tried.tells("many(), ordered, all barred", x -> {
            Tried.put(x, 1, 2);
            x.force(Tried.law(x, "bars"));
        }, TurnedFloors::many, 1);
        Tried.tells("many(), it can't be", x -> {
            Tried.put(x, 2, 1);
            x.force(Tried.law(x, "bars"));
        }, TurnedFloors::many, 0);
        TurnedFloors again = Tried.tower(5, 3, 4);
        Tried.due("many()", again.many(), 1);
        Tried.due("many() again", again.many(), 1);
        again.turn(3);
        Tried.due("many() behind a turn", again.many(), 1);
        Tried.tells("many(), two rows", x -> {
            x.floor(0, 1);
            x.floor(1, 1);
            x.terms(3, 1);
        }, TurnedFloors::many, 2);
        // 1,000,000,000 at most: LongRowsTest, as it takes a law by which the rows are long.
    }

    private static void cheapest() {
        Tried.says("22: CHEAPEST. NONE (it can't be)");
        Tried.tells("cheapest() of no floors", PromiseEdgeTest::nothing, TurnedFloors::cheapest, 0);
        Tried.tells("cheapest(), ordered", x -> Tried.put(x, 1, 2), TurnedFloors::cheapest, 0);
        Tried.none("cheapest(), it can't be", x -> {
            Tried.put(x, 2, 1);
            x.force(Tried.law(x, "pays 0; bars"));
        }, TurnedFloors::cheapest);
        Tried.says("III: CHEAPEST: what TURNS by which it is ORDERED PAY together, at least");
        Tried.due("for nothing", Tried.ruled("pays 0", 2, 1).cheapest(), 0);
        Tried.due("for nothing by more turns", Tried.ruled("pays 0; pays 9 if grip=2 and head=0", 1, 0).cheapest(), 0);
        TurnedFloors x = new TurnedFloors();
        for (int rank = 0; rank < 6; rank++) {
            x.floor(rank, 1);
        }
        x.terms(3, 1);
        x.force(Tried.law(x, "pays 1000"));
        Tried.due("12 of the dearest", x.cheapest(), 12 * 99);
        x.force(Tried.law(x, "pays 1"));
        Tried.due("12 that pay 1", x.cheapest(), 12);
        x = Tried.ruled("pays 99");
        x.floor(0, 1);
        x.floor(1, 1);
        x.terms(3, 1);
        Tried.due("four of the dearest, two floors", x.cheapest(), 4 * 99);
        Tried.says("III: it is not held by what can be PAID");
        x = Tried.ruled("pays 99", 1, 0);
        for (int i = 0; i < 6; i++) {
            Tried.orders(x, "turn 2 times 20");
        }
        Tried.due("count(2)", x.count(2), 9999);
        Tried.due("cheapest() at 9,999", x.cheapest(), 99);
    }

    private static void worst(Tried.Lead lead, int turns, int soBad, int all) {
        Tried.tells("worst(0)", lead, x -> x.worst(0), turns);
        Tried.tells("worst(1)", lead, x -> x.worst(1), soBad);
        Tried.tells("worst(2)", lead, x -> x.worst(2), all);
        for (int what : new int[] {-1, 3, LEAST, GREATEST}) {
            Tried.none("worst(" + what + ")", lead, x -> x.worst(what));
        }
    }

    private static void worst() {
        Tried.says("23: WORST: how many TURNS (0), how many towers need so many (1), how many can be ORDERED (2). NONE");
        worst(PromiseEdgeTest::nothing, 0, 1, 1);
        worst(x -> x.floor(4, 1), 0, 2, 2);
        worst(x -> {
            x.floor(4, 1);
            x.terms(3, 1);
        }, 1, 1, 2);
        worst(x -> Tried.put(x, 4, 1), 1, 4, 8);
        worst(PromiseEdgeTest::six, 7, 2 * 64, 720 * 64);
        worst(x -> {
            six(x);
            x.force(Tried.law(x, "bars"));
        }, 0, 64, 64);
        worst(x -> {
            six(x);
            x.terms(3, 1);
            x.force(Tried.law(x, "bars"));
        }, 0, 1, 1);
    }

    private static void reach() {
        Tried.says("24: REACH (itself, too)");
        Tried.tells("reach() of no floors", PromiseEdgeTest::nothing, TurnedFloors::reach, 1);
        Tried.tells("reach() of one", x -> x.floor(4, 1), TurnedFloors::reach, 2);
        Tried.tells("reach() of six", PromiseEdgeTest::six, TurnedFloors::reach, 46080);
        Tried.tells("reach(), all barred", x -> {
            six(x);
            x.force(Tried.law(x, "bars"));
        }, TurnedFloors::reach, 1);
        Tried.says("II: next -1: none, on paper too");
        Tried.tells("reach() by the turn of all alone", x -> {
            six(x);
            x.force(Tried.law(x, "bars if not next = 0-1"));
        }, TurnedFloors::reach, 2);
        Tried.tells("reach() by all but the turn of all: the lowest stays", x -> {
            six(x);
            x.force(Tried.law(x, "bars if next = 0-1"));
        }, TurnedFloors::reach, 120 * 32);
        Tried.tells("reach() by turns above the 0 alone", x -> {
            six(x);
            x.force(Tried.law(x, "bars if not next = 0"));
        }, TurnedFloors::reach, 2);
        Tried.says("24: REACH, by TURNS not BARRED");
        Tried.tells("reach(), the last turn alone", x -> {
            six(x);
            x.force(Tried.law(x, "bars if grip < 6"));
        }, TurnedFloors::reach, 2);
    }

    private static void gaps() {
        Tried.says("25: GAPS");
        Tried.tells("gaps() of no floors", PromiseEdgeTest::nothing, TurnedFloors::gaps, 0);
        Tried.tells("gaps() of one", x -> x.floor(0, 0), TurnedFloors::gaps, 0);
        Tried.says("III: twos the RANKS of which are not next to one another among those there");
        Tried.due("gaps() of 0 5", Tried.tower(0, 5).gaps(), 0);
        Tried.due("gaps() of 0 3 5", Tried.tower(0, 3, 5).gaps(), 0);
        Tried.due("gaps() of 3 0 5", Tried.tower(3, 0, 5).gaps(), 1);
        Tried.due("gaps() of 0 1 2 3 4 5", Tried.tower(0, 1, 2, 3, 4, 5).gaps(), 0);
        Tried.due("gaps() of 4 2 0 3 1 5", Tried.tower(4, 2, 0, 3, 1, 5).gaps(), 5);
        Tried.says("III: and one more, if the lowest FLOOR is not the greatest RANK");
        Tried.due("gaps() of 5 0", Tried.tower(5, 0).gaps(), 1);
        Tried.due("gaps() of 4 3 2 1 0", Tried.tower(4, 3, 2, 1, 0).gaps(), 1);
        Tried.due("gaps() of 1 0 2, the greatest there", Tried.tower(1, 0, 2).gaps(), 1);
        Tried.due("gaps() of 1 2 0", Tried.tower(1, 2, 0).gaps(), 2);
        Tried.due("gaps() of 3 5 1 4 0 2", Tried.tower(3, 5, 1, 4, 0, 2).gaps(), 6);
    }

    private static void comes() {
        Tried.says("26: To COME to an order: how many TURNS. NONE (not just the RANKS there are, each once)");
        Tried.Lead three = x -> Tried.put(x, 3, 0, 1);
        Tried.tells("comes() to where it is", three, x -> x.comes(301), 0);
        Tried.tells("comes(103)", three, x -> x.comes(103), 1);
        for (int order : new int[] {3, 30, 0, 1, 11, 33, 300, 303, 311, 331, 302, 341, 3010, 3301, 1301, 10301, 900301, -301, -1, -31,
            LEAST, GREATEST}) {
            Tried.none("comes(" + order + ")", three, x -> x.comes(order));
        }
        Tried.says("III: an order told as digits (0s ahead of it may be left out)");
        Tried.tells("comes(31): 0 3 1", three, x -> x.comes(31), 1);
        Tried.tells("comes(13): 0 1 3", three, x -> x.comes(13), 2);
        Tried.tells("comes(0) of floor 0", x -> x.floor(0, 1), x -> x.comes(0), 0);
        Tried.none("comes(0) of floor 1", x -> x.floor(1, 1), x -> x.comes(0));
        Tried.none("comes(1) of floor 0", x -> x.floor(0, 1), x -> x.comes(1));
        Tried.tells("comes(1) of 1 0", x -> Tried.put(x, 1, 0), x -> x.comes(1), 1);
        Tried.tells("comes(10) of 1 0", x -> Tried.put(x, 1, 0), x -> x.comes(10), 0);
        Tried.none("comes(1) of 1 2", x -> Tried.put(x, 1, 2), x -> x.comes(1));
        Tried.none("comes(120) of 1 2", x -> Tried.put(x, 1, 2), x -> x.comes(120));
        Tried.tells("comes(0) of no floors", PromiseEdgeTest::nothing, x -> x.comes(0), 0);
        Tried.none("comes(1) of no floors", PromiseEdgeTest::nothing, x -> x.comes(1));
        Tried.none("comes(-1) of no floors", PromiseEdgeTest::nothing, x -> x.comes(-1));
        Tried.tells("comes(543210) of six", PromiseEdgeTest::six, x -> x.comes(543210), 0);
        Tried.tells("comes(12345) of six", PromiseEdgeTest::six, x -> x.comes(12345), 1);
        Tried.none("comes(2345) of six", PromiseEdgeTest::six, x -> x.comes(2345));
        Tried.none("comes(612345) of six", PromiseEdgeTest::six, x -> x.comes(612345));
        Tried.none("comes(1543210) of six", PromiseEdgeTest::six, x -> x.comes(1543210));
        Tried.none("comes(1000543210) of six", PromiseEdgeTest::six, x -> x.comes(1000543210));
        Tried.says("III: HEADS whatever they are");
        TurnedFloors x = Tried.led(three);
        x.terms(3, 1);
        Tried.due("comes(103), HEADS 1", x.comes(103), 1);
        x.right(0);
        Tried.due("comes(301), HEADS 1, one on its head", x.comes(301), 0);
        Tried.says("26: NONE (it can't be)");
        Tried.Lead barred = y -> {
            three.to(y);
            y.force(Tried.law(y, "bars if grip = 3"));
        };
        Tried.none("comes(103)", barred, y -> y.comes(103));
        Tried.tells("comes(31)", barred, y -> y.comes(31), 1);
        Tried.tells("comes(301)", barred, y -> y.comes(301), 0);
    }

    private static void view() {
        Tried.says("27: A VIEW: how many TURNS. NONE (no such FLOOR; it can't be)");
        Tried.Lead four = x -> Tried.put(x, 3, 0, 1, 5);
        Tried.tells("view(3), at the top", four, x -> x.view(3), 0);
        Tried.tells("view(0)", four, x -> x.view(0), 1);
        Tried.tells("view(5), the lowest", four, x -> x.view(5), 1);
        for (int rank : new int[] {2, 4, 6, 7, -1, LEAST, GREATEST}) {
            Tried.none("view(" + rank + ")", four, x -> x.view(rank));
        }
        Tried.Lead barred = x -> {
            four.to(x);
            x.force(Tried.law(x, "bars if grip = 4 or grip = 3 and top = 3"));
        };
        Tried.none("view(5), it can't be", barred, x -> x.view(5));
        Tried.tells("view(1), by two", barred, x -> x.view(1), 2);
        Tried.tells("view(3), at the top", x -> {
            four.to(x);
            x.force(Tried.law(x, "bars"));
        }, x -> x.view(3), 0);
    }

    private static void stays(Tried.Lead lead, int most, int places) {
        Tried.tells("stays(0)", lead, x -> x.stays(0), most);
        Tried.tells("stays(1)", lead, x -> x.stays(1), places);
        for (int what : new int[] {-1, 2, LEAST, GREATEST}) {
            Tried.none("stays(" + what + ")", lead, x -> x.stays(what));
        }
    }

    private static void stays() {
        Tried.says("28: To STAY: how many FLOORS (what 0), PLACES, as bits (1). NONE");
        stays(PromiseEdgeTest::nothing, 0, 0);
        stays(x -> x.floor(5, 1), 1, 1);
        stays(x -> Tried.put(x, 0, 1, 2, 3, 4, 5), 6, 63);
        stays(PromiseEdgeTest::six, 1, 1);
        Tried.says("III: (if HEADS is 1, none on its HEAD)");
        stays(x -> {
            x.floor(5, 1);
            x.terms(3, 1);
        }, 0, 0);
        stays(x -> {
            Tried.put(x, 0, 1, 2, 3, 4, 5);
            x.right(5);
            x.terms(3, 1);
        }, 5, 31);
        stays(x -> {
            six(x);
            x.turn(5);
            x.terms(3, 1);
        }, 1, 32);
        Tried.says("III: the lowest PLACES");
        stays(x -> Tried.put(x, 1, 0, 3, 2), 2, 1 + 4);
        stays(x -> Tried.put(x, 3, 4, 5, 0, 1, 2), 3, 1 + 2 + 4);
        stays(x -> Tried.put(x, 2, 5, 0, 3, 1, 4), 3, 1 + 8 + 32);
    }

    private static void seenAndForget() {
        Tried.says("29: SEEN: how often there was. -1; -5");
        TurnedFloors x = Tried.tower(0, 1);
        for (int i = 1; i <= 6; i++) {
            Tried.due("seen()", x.seen(1, 1), i);
            Tried.due("count(3)", x.count(3), i);
            Tried.due("status()", x.status(), 0);
        }
        Tried.due("seen(), one more", x.seen(1, 1), -5);
        Tried.due("count(3)", x.count(3), 6);
        Tried.due("count(10)", x.count(10), 1);
        Tried.says("30: SEEN is nothing then: how often there was");
        Tried.due("forget()", x.forget(), 6);
        Tried.due("status(), as it was", x.status(), -5);
        Tried.due("count(3)", x.count(3), 0);
        Tried.due("forget() of nothing", x.forget(), 0);
        Tried.due("was()", x.was(), 6);
        Tried.tells("forget() of nothing", PromiseEdgeTest::nothing, TurnedFloors::forget, 0);
    }

    private static Tried.Lead sixSeen(int... placesAndRanks) {
        return x -> {
            six(x);
            for (int i = 0; i + 1 < placesAndRanks.length; i += 2) {
                x.seen(placesAndRanks[i], placesAndRanks[i + 1]);
            }
        };
    }

    private static void was() {
        Tried.says("31: IT WAS: k as bits (bit k)");
        Tried.tells("was() of no floors", PromiseEdgeTest::nothing, TurnedFloors::was, 0);
        Tried.tells("was() of one", x -> x.floor(2, 0), TurnedFloors::was, 2);
        Tried.tells("was() of six, nothing SEEN", sixSeen(), TurnedFloors::was, 126);
        for (int k = 1; k <= 6; k++) {
            Tried.tells("was() by the top", sixSeen(0, 6 - k), TurnedFloors::was, 1 << k);
            Tried.tells("was(), six times the same", sixSeen(0, 6 - k, 0, 6 - k, 0, 6 - k, 0, 6 - k, 0, 6 - k, 0, 6 - k),
                TurnedFloors::was, 1 << k);
        }
        Tried.tells("was() by the lowest", sixSeen(5, 0), TurnedFloors::was, 2 + 4 + 8 + 16 + 32);
        Tried.tells("was() by the lowest", sixSeen(5, 5), TurnedFloors::was, 64);
        Tried.tells("was() by two that can't be", sixSeen(0, 5, 1, 5), TurnedFloors::was, 0);
        Tried.tells("was() by the sixth SEEN alone", sixSeen(5, 0, 5, 0, 5, 0, 5, 0, 5, 0, 5, 5), TurnedFloors::was, 0);
        Tried.tells("was() by a RANK that is not there", x -> {
            x.floor(2, 0);
            x.seen(0, 3);
        }, TurnedFloors::was, 0);
        Tried.tells("was() by a PLACE without a FLOOR", x -> {
            x.floor(2, 0);
            x.seen(1, 2);
        }, TurnedFloors::was, 0);
        Tried.tells("was(), not BARRED", x -> {
            sixSeen().to(x);
            x.force(Tried.law(x, "bars if grip = 1 or grip = 6"));
        }, TurnedFloors::was, 4 + 8 + 16 + 32);
        Tried.tells("was(), all BARRED", x -> {
            sixSeen().to(x);
            x.force(Tried.law(x, "bars"));
        }, TurnedFloors::was, 0);
    }

    private static void look() {
        Tried.says("32: To LOOK at: the PLACE (what 0), how many are left at most (1). NONE (it was none)");
        for (int what : new int[] {0, 1}) {
            Tried.none("look(" + what + ") of no floors", PromiseEdgeTest::nothing, x -> x.look(what));
            Tried.none("look(" + what + "), it was none", sixSeen(0, 5, 1, 5), x -> x.look(what));
            Tried.tells("look(" + what + ") of six", sixSeen(), x -> x.look(what), what);
            Tried.tells("look(" + what + ") of one left", sixSeen(5, 5), x -> x.look(what), what);
            Tried.none("look(" + what + "), all barred", x -> {
                six(x);
                x.force(Tried.law(x, "bars"));
            }, x -> x.look(what));
        }
        for (int what : new int[] {-1, 2, LEAST, GREATEST}) {
            Tried.none("look(" + what + ")", sixSeen(), x -> x.look(what));
        }
    }

    private static Tried.Lead slips(int slips) {
        return x -> {
            Tried.rich(x);
            x.terms(1, slips);
        };
    }

    private static void few() {
        Tried.says("33: FEW, k 1 .. 20, n 0 .. 99. NONE");
        for (int k : new int[] {1, 20}) {
            Tried.tells("few(" + k + ", 0)", slips(3), x -> x.few(k, 0), WHOLE);
            Tried.tells("few(" + k + ", 99), SLIPS 0", slips(0), x -> x.few(k, 99), WHOLE);
            Tried.tells("few(" + k + ", 99), SLIPS 10", slips(10), x -> x.few(k, 99), 0);
            Tried.none("few(" + k + ", 100)", slips(3), x -> x.few(k, 100));
            Tried.none("few(" + k + ", -1)", slips(3), x -> x.few(k, -1));
        }
        for (int k : new int[] {0, 21, -1, LEAST, GREATEST}) {
            Tried.none("few(" + k + ", 0)", slips(3), x -> x.few(k, 0));
            Tried.none("few(" + k + ", 99)", slips(3), x -> x.few(k, 99));
        }
        for (int n : new int[] {LEAST, GREATEST}) {
            Tried.none("few(1, " + n + ")", slips(3), x -> x.few(1, n));
        }
        Tried.says("III: fewer than k do");
        Tried.tells("few(19, 19), SLIPS 10", slips(10), x -> x.few(19, 19), 0);
        Tried.tells("few(20, 19), SLIPS 10", slips(10), x -> x.few(20, 19), WHOLE);
        Tried.tells("few(20, 20), SLIPS 10", slips(10), x -> x.few(20, 20), 0);
        Tried.tells("few(1, 1), SLIPS 10", slips(10), x -> x.few(1, 1), 0);
        Tried.tells("few(1, 1), SLIPS 9", slips(9), x -> x.few(1, 1), WHOLE / 10);
        Tried.tells("few(2, 1), SLIPS 9", slips(9), x -> x.few(2, 1), WHOLE);
        Tried.tells("few(1, 12), SLIPS 9", slips(9), x -> x.few(1, 12), 1);
        Tried.says("III: each part is cut");
        Tried.tells("few(1, 13), SLIPS 9", slips(9), x -> x.few(1, 13), 0);
        // Behind 12 grips 1 part has no slip and 108 have one; of the 13th's two parts for one slip, 0.9 and 10.8, each is cut.
        Tried.tells("few(2, 12), SLIPS 9", slips(9), x -> x.few(2, 12), 1 + 108);
        Tried.tells("few(2, 13), SLIPS 9", slips(9), x -> x.few(2, 13), 10);
    }

    private static void compare() {
        Tried.says("34: COMPARED. NONE (no such LAW; it can't be)");
        Tried.Lead lead = x -> {
            Tried.put(x, 2, 0, 1);
            x.force(Tried.law(x, "bars if grip = 3"));
            Tried.law(x, "bars if grip = 3 and head = 0");
        };
        Tried.none("compare(0), it can't be", lead, x -> x.compare(0));
        Tried.tells("compare(1), the last", lead, x -> x.compare(1), 3);
        Tried.tells("compare(-1): by none", lead, x -> x.compare(-1), 2);
        for (int law : new int[] {2, 5, 6, -2, LEAST, GREATEST}) {
            Tried.none("compare(" + law + ")", lead, x -> x.compare(law));
        }
        Tried.tells("compare(-1) of no floors", PromiseEdgeTest::nothing, x -> x.compare(-1), 0);
        Tried.none("compare(0) of no LAW", PromiseEdgeTest::nothing, x -> x.compare(0));
        Tried.none("compare() of a law() behind back()", x -> {
            lead.to(x);
            x.image(0);
            Tried.law(x, "bars");
            x.back(0);
        }, x -> x.compare(2));
        TurnedFloors x = Tried.led(lead);
        Tried.due("compare(-1)", x.compare(-1), 2);
        Tried.due("asks(3, 1): that in FORCE stays", x.asks(3, 1), 1);
        Tried.due("fewest(-1): that in FORCE stays", x.fewest(-1), -1);
    }

    private static void years() {
        Tried.says("35: YEARS: -1");
        for (int seed : new int[] {-1, 1_000_001, LEAST, GREATEST}) {
            Tried.refused("years(" + seed + ", 1)", Tried::rich, x -> x.years(seed, 1), -1);
        }
        for (int n : new int[] {0, 61, -1, LEAST, GREATEST}) {
            Tried.refused("years(0, " + n + ")", Tried::rich, x -> x.years(0, n), -1);
        }
        Tried.says("35: -3 there are no FLOORS");
        Tried.refused("years(0, 1)", PromiseEdgeTest::nothing, x -> x.years(0, 1), -3);
        Tried.refused("years(1000000, 60)", PromiseEdgeTest::nothing, x -> x.years(1_000_000, 60), -3);
        Tried.taken("years() of one FLOOR", x -> x.floor(5, 1), x -> x.years(0, 1), 0);
        TurnedFloors x = new TurnedFloors();
        x.image(0);
        x.floor(3, 0);
        x.years(0, 1);
        x.back(0);
        Tried.due("years(), the FLOORS gone", x.years(0, 1), -3);
        Tried.due("drawn(0, 0), those of the latest that was not refused", x.drawn(0, 0), 3);
    }

    /** By other means: a tower of one FLOOR, upright, under a law by which a TURN pays 1 and a YEAR tips it. */
    private static int[] oneFloor(int seed, int n, int year) {
        long s = seed;
        int paid = 0;
        int head = 0;
        for (int i = 0; i < n && year + i < 999; i++) {
            s = (s * 1103 + 12345) % 1_000_003;
            long first = s % 6;
            s = (s * 1103 + 12345) % 1_000_003;
            if (first == 0) {
                paid += s % 3 < 2 ? 1 : 0;
                head = 1 - head;
            }
            head = 1 - head;
        }
        return new int[] {paid, head};
    }

    private static void yearsRun() {
        Tried.says("IV: s is the SEED (0 .. 1,000,000), n 1 .. 60");
        for (int seed : new int[] {0, 1, 999_999, 1_000_000}) {
            for (int n : new int[] {1, 2, 59, 60}) {
                for (int year : new int[] {0, 938, 939, 940, 997, 998, 999}) {
                    TurnedFloors x = Tried.ruled("pays 1; tips", 4);
                    x.terms(0, year);
                    int[] due = oneFloor(seed, n, year);
                    Tried.due("years(" + seed + ", " + n + ") at " + year, x.years(seed, n), due[0]);
                    Tried.due("status()", x.status(), 0);
                    Tried.due("drawn(0, 1)", x.drawn(0, 1), due[1]);
                    Tried.due("drawn(0, 0)", x.drawn(0, 0), 4);
                    Tried.due("count(13), on paper", x.count(13), year);
                    Tried.due("at(0, 1), on paper", x.at(0, 1), 0);
                    Tried.due("count(2), on paper", x.count(2), 0);
                }
            }
        }
        Tried.says("IV: Each time (at YEAR 999 it ends)");
        TurnedFloors x = Tried.ruled("pays 1; tips", 4);
        x.terms(0, 999);
        Tried.due("years() at 999", x.years(1_000_000, 60), 0);
        Tried.due("drawn(0, 1): as it is now", x.drawn(0, 1), 0);
        x.terms(0, 998);
        // 1,000,000: 9036, 979026: 0, 0: a TURN of 1; then it tips.
        Tried.due("years() at 998", x.years(1_000_000, 60), 1);
        Tried.due("drawn(0, 1)", x.drawn(0, 1), 0);
        Tried.says("IV: each if it can be");
        x = Tried.ruled("bars", 4, 2);
        Tried.due("years(), all barred", x.years(1_000_000, 1), 0);
        Tried.due("drawn(0, 1)", x.drawn(0, 1), 0);
        // 0: 12345, 628841: 3, 2: the FLOOR at PLACE 3 is RIGHTED.
        x = Tried.tower(5, 4, 3);
        Tried.due("years(0, 1), no FLOOR there", x.years(0, 1), 0);
        Tried.due("drawn(2, 1)", x.drawn(2, 1), 0);
        x.floor(2, 0);
        x.years(0, 1);
        Tried.due("drawn(3, 1)", x.drawn(3, 1), 1);
        Tried.says("35: by how much PAID is more behind them");
        x = Tried.ruled("pays 99", 4);
        for (int i = 0; i < 5; i++) {
            Tried.orders(x, "turn 1 times 20");
        }
        x.force(Tried.law(x, "pays 98"));
        x.turn(1);
        Tried.due("count(2)", x.count(2), 9998);
        Tried.due("years() at 9,998", x.years(1_000_000, 1), 1);
        x.turn(1);
        Tried.due("years() at 9,999", x.years(1_000_000, 1), 0);
        Tried.due("count(5), on paper", x.count(5), 16);
    }

    private static void drawn() {
        Tried.says("36: Behind the latest YEARS at a PLACE the RANK (0), whether on its HEAD (1). NONE");
        Tried.Lead lead = x -> {
            Tried.put(x, 5, 1, 3);
            x.right(1);
            x.terms(0, 999);
            x.years(0, 1);
        };
        int[][] told = {{5, 0}, {1, 1}, {3, 0}};
        for (int place = 0; place < 3; place++) {
            for (int what = 0; what < 2; what++) {
                int where = place;
                int one = what;
                Tried.tells("drawn(" + place + ", " + what + ")", lead, x -> x.drawn(where, one), told[place][what]);
            }
        }
        for (int place : new int[] {3, 5, 6, -1, LEAST, GREATEST}) {
            Tried.none("drawn(" + place + ", 0)", lead, x -> x.drawn(place, 0));
            Tried.none("drawn(" + place + ", 1)", lead, x -> x.drawn(place, 1));
        }
        for (int what : new int[] {2, -1, LEAST, GREATEST}) {
            Tried.none("drawn(0, " + what + ")", lead, x -> x.drawn(0, what));
        }
        TurnedFloors x = Tried.led(lead);
        x.floor(0, 1);
        x.turn(4);
        Tried.due("drawn(0, 0): those of then", x.drawn(0, 0), 5);
        Tried.due("drawn(3, 0): those of then", x.drawn(3, 0), -1);
        x.years(0, 1);
        Tried.due("drawn(0, 0): the latest", x.drawn(0, 0), 0);
        Tried.due("drawn(3, 0): the latest", x.drawn(3, 0), 5);
    }

    private static void image() {
        Tried.says("37: IMAGE k is kept: 0; -1");
        for (int k : new int[] {-1, 2, LEAST, GREATEST}) {
            Tried.refused("image(" + k + ")", Tried::rich, x -> x.image(k), -1);
        }
        for (int k : new int[] {0, 1}) {
            TurnedFloors x = Tried.taken("image(" + k + ")", Tried::rich, y -> y.image(k), 0);
            Tried.due("count(5) behind image()", x.count(5), 4);
            Tried.due("count(6) behind image()", x.count(6), 3);
            x.turn(4);
            x.back(k);
            Tried.same("back(): the latest image(" + k + ")", Tried.stands(x), "1'43'0'");
            x.back(1 - k);
            Tried.same("back() to the other", Tried.stands(x), k == 0 ? "41'30'" : "41'");
        }
        Tried.says("37: an IMAGE of a tower without floors");
        TurnedFloors x = new TurnedFloors();
        Tried.due("image(1)", x.image(1), 0);
        Tried.rich(x);
        x.image(1);
        Tried.due("back(1)", x.back(1), 0);
        Tried.due("count(0)", x.count(0), 4);
        x = new TurnedFloors();
        x.image(0);
        x.floor(3, 1);
        x.terms(0, 999);
        x.terms(1, 10);
        x.terms(2, 9);
        x.terms(3, 1);
        x.seen(0, 0);
        x.force(Tried.law(x, "pays 9"));
        x.turn(1);
        Tried.due("back(0)", x.back(0), 0);
        int[] first = {0, 0, 0, 0, 0, 0, 0, 0, 0, 0, 0, 0, -1, 0, 1, 0, 0, 1};
        for (int what = 0; what < first.length; what++) {
            Tried.due("count(" + what + ")", x.count(what), first[what]);
        }
        Tried.due("floor(3, 0) again", x.floor(3, 0), 0);
        Tried.due("law(): 0 again", Tried.law(x, "pays 4"), 0);
    }

    private static void back() {
        Tried.says("38: BACK to IMAGE k: 0. -1; -2 it was not kept");
        for (int k : new int[] {-1, 2, LEAST, GREATEST}) {
            Tried.refused("back(" + k + ")", Tried::rich, x -> x.back(k), -1);
        }
        Tried.refused("back(1), the other was kept", x -> {
            Tried.put(x, 2, 1);
            x.image(0);
            x.turn(2);
        }, x -> x.back(1), -2);
        Tried.refused("back(0), the other was kept", x -> {
            Tried.put(x, 2, 1);
            x.image(1);
            x.turn(2);
        }, x -> x.back(0), -2);
        Tried.says("IV: BACK to one all that it keeps is as it was then");
        TurnedFloors x = Tried.taken("back(0)", Tried::rich, y -> y.back(0), 0);
        Tried.same("back(0)", Tried.stands(x), "41'");
        int[] counts = {2, 1, 0, 1, 2, 0, 3};
        for (int what = 0; what < counts.length; what++) {
            Tried.due("count(" + what + ")", x.count(what), counts[what]);
        }
        int[] others = {-1, 0, 1, 0, 0, 0};
        for (int i = 0; i < others.length; i++) {
            Tried.due("count(" + (12 + i) + ")", x.count(12 + i), others[i]);
        }
        Tried.due("was(), SEEN of then", x.was(), 4);
        x = Tried.taken("back(1)", Tried::rich, y -> y.back(1), 0);
        Tried.same("back(1)", Tried.stands(x), "41'30'");
        int[] laterOthers = {1, 5, 3, 4, 1, 0};
        for (int i = 0; i < laterOthers.length; i++) {
            Tried.due("count(" + (12 + i) + ")", x.count(12 + i), laterOthers[i]);
        }
        Tried.due("count(2)", x.count(2), 0);
        Tried.due("count(3)", x.count(3), 2);
        Tried.says("IV: SEEN of then, each of it");
        for (int often = 1; often <= 6; often++) {
            x = Tried.led(sixSeen(5, 0, 5, 0, 5, 0, 5, 0, 5, 0, 0, 3));
            x.image(0);
            x.forget();
            for (int i = 0; i < often; i++) {
                x.seen(5, 5);
            }
            Tried.due("was() of others", x.was(), 64);
            x.image(1);
            x.back(0);
            Tried.due("count(3)", x.count(3), 6);
            Tried.due("was() of then", x.was(), 8);
            x.back(1);
            Tried.due("count(3)", x.count(3), often);
            Tried.due("was() of others", x.was(), 64);
        }
        Tried.says("IV: (IMAGES stay)");
        x = Tried.led(Tried::rich);
        x.back(1);
        for (int i = 0; i < 3; i++) {
            x.floor(5, 0);
            x.end(0);
            Tried.law(x, "pays " + i);
            x.force(2);
            x.pass();
            x.forget();
            Tried.due("back(1)", x.back(1), 0);
            Tried.same("back(1)", Tried.stands(x), "41'30'");
            Tried.due("count(4)", x.count(4), 2);
            Tried.due("count(12)", x.count(12), 1);
            Tried.due("count(13)", x.count(13), 5);
            Tried.due("count(3)", x.count(3), 2);
            Tried.due("back(0)", x.back(0), 0);
            Tried.same("back(0)", Tried.stands(x), "41'");
            x.back(1);
        }
        x = Tried.tower(0);
        x.force(Tried.law(x, "pays 10"));
        x.image(0);
        x.force(Tried.law(x, "pays 20"));
        x.image(1);
        x.back(0);
        x.force(Tried.law(x, "pays 30"));
        Tried.due("asks(1, 0), the new law 1", x.asks(1, 0), 30);
        x.back(1);
        Tried.due("asks(1, 0), law 1 of image 1", x.asks(1, 0), 20);
        x.back(0);
        Tried.due("asks(1, 0), law 0", x.asks(1, 0), 10);
        Tried.due("force(1): there is none", x.force(1), -2);
        Tried.says("IV: LAWS of then, each by its number");
        for (int first = 0; first < 6; first++) {
            x = Tried.tower(0);
            lawsFrom(x, 0, first, 10);
            x.image(0);
            lawsFrom(x, first, 6, 20);
            x.image(1);
            x.back(0);
            Tried.due("count(4) of then", x.count(4), first);
            lawsFrom(x, first, 6, 30);
            x.back(1);
            for (int law = 0; law < 6; law++) {
                x.force(law);
                Tried.due("asks(1, 0) by law " + law + " of image 1", x.asks(1, 0), (law < first ? 10 : 20) + law);
            }
        }
    }

    private static void lawsFrom(TurnedFloors x, int first, int end, int pays) {
        for (int law = first; law < end; law++) {
            Tried.due("law()", Tried.law(x, "pays " + (pays + law)), law);
        }
    }

    private static void notKept() {
        Tried.says("IV: IMAGES keep all but the TAPE, FAULT, BRICKS, where ORDERS stopped, .. the latest YEARS");
        TurnedFloors x = Tried.led(Tried::rich);
        x.back(1);
        Tried.due("fault()", x.fault(), 5);
        Tried.due("bricks()", x.bricks(), 2);
        Tried.due("stopped()", x.stopped(), 1);
        Tried.due("count(6)", x.count(6), 3);
        x.back(0);
        Tried.due("drawn(3, 0): four FLOORS as then", x.drawn(3, 0) >= 0 ? 1 : 0, 1);
        Tried.due("drawn(4, 0)", x.drawn(4, 0), -1);
        Tried.due("row(): the TAPE's bytes", x.row(), 1);
        Tried.due("bricks()", x.bricks(), 1);
        Tried.same("row()", Tried.stands(x), "41'5'");
        x = Tried.tower(0);
        x.image(0);
        Tried.lay(x, "zzz");
        x.row();
        Tried.orders(x, "pass; pass; turn 9");
        x.years(1_000_000, 1);
        Tried.law(x, "bars bars");
        Tried.lay(x, "zz");
        x.pass();
        x.back(0);
        Tried.due("bricks() behind back()", x.bricks(), 2);
        Tried.due("stopped() behind back()", x.stopped(), 2);
        Tried.due("fault() behind back()", x.fault(), 5);
        Tried.due("drawn(0, 1) behind back()", x.drawn(0, 1), 1);
        Tried.due("count(6) behind back()", x.count(6), 2);
        Tried.due("count(5) behind back()", x.count(5), 0);

        Tried.says("39: how many calls were REFUSED (IMAGES do not keep that)");
        x = new TurnedFloors();
        x.image(0);
        x.turn(0);
        x.force(0);
        x.turn(1);
        x.law();
        for (int i = 0; i < 7; i++) {
            x.seen(0, 0);
        }
        x.image(1);
        x.turn(0);
        x.back(1);
        int[] due = {2, 1, 1, 1, 1};
        for (int i = 0; i < due.length; i++) {
            Tried.due("count(" + (7 + i) + ") behind back(1)", x.count(7 + i), due[i]);
        }
        x.back(0);
        for (int i = 0; i < due.length; i++) {
            Tried.due("count(" + (7 + i) + ") behind back(0)", x.count(7 + i), due[i]);
        }
        Tried.due("status() behind back(0)", x.status(), 0);
    }

    private static void count() {
        Tried.says("39: count: 0 .. 17");
        int[] rich = {4, 3, 11, 2, 2, 4, 3, 0, 0, 1, 0, 1, 1, 6, 3, 4, 1, 0};
        for (int what = 0; what < rich.length; what++) {
            int one = what;
            Tried.tells("count(" + what + ")", Tried::rich, x -> x.count(one), rich[what]);
        }
        Tried.says("39: NONE for others");
        for (int what : new int[] {-1, 18, 19, LEAST, GREATEST}) {
            Tried.none("count(" + what + ")", Tried::rich, x -> x.count(what));
        }
    }

    private static final String[] NAMES = {"floor", "terms", "row", "law", "orders", "force", "turn", "right", "swap", "pass", "undo",
        "seen", "years", "image", "back"};
    private static final Tried.Call[] REFUSED = {x -> x.floor(6, 0), x -> x.terms(4, 0), x -> x.end(0) + x.row(),
        x -> Tried.law(x, "?"), x -> Tried.orders(x, "?"), x -> x.force(9), x -> x.turn(5), x -> x.right(4), x -> x.swap(3),
        x -> {
            x.terms(0, 999);
            return x.pass();
        },
        x -> {
            x.terms(0, 9);
            return x.undo();
        }, x -> x.seen(6, 0), x -> x.years(0, 0), x -> x.image(2), x -> x.back(2)};
    private static final int[] REASONS = {-1, -1, -6, -6, -6, -2, -3, -3, -3, -3, -3, -1, -1, -1, -1};
    private static final Tried.Call[] TAKEN = {x -> x.floor(2, 0), x -> x.terms(0, 9), TurnedFloors::row,
        x -> x.end(0) + Tried.law(x, "bars"), x -> x.end(0) + Tried.orders(x, "pass"), x -> x.force(0), x -> x.turn(1),
        x -> x.right(3), x -> x.swap(2), TurnedFloors::pass, TurnedFloors::undo, x -> x.seen(5, 5), x -> x.years(0, 1),
        x -> x.image(0), x -> x.back(1)};

    private static void status() {
        Tried.says("40: What the latest call of floor, terms, row, law, .. was REFUSED by; 0 if it was not");
        for (int i = 0; i < NAMES.length; i++) {
            TurnedFloors x = Tried.led(Tried::rich);
            x.years(0, 1);
            Tried.due("status()", x.status(), 0);
            REFUSED[i].on(x);
            Tried.due("status() behind " + NAMES[i] + "() refused", x.status(), REASONS[i]);
            Tried.due("status() again", x.status(), REASONS[i]);
            x = Tried.led(Tried::rich);
            Tried.due("status()", x.status(), -6);
            Tried.due(NAMES[i] + "() is taken", TAKEN[i].on(x) >= 0 ? 1 : 0, 1);
            Tried.due("status() behind " + NAMES[i] + "() taken", x.status(), 0);
        }
        Tried.says("40: 0 ahead of any");
        TurnedFloors x = new TurnedFloors();
        x.feed(0, 0, 0, 0, 0);
        x.end(-1);
        x.forget();
        x.view(9);
        Tried.due("status()", x.status(), 0);
        Tried.tells("status()", Tried::rich, TurnedFloors::status, -6);
    }

    private static void statusLeft() {
        Tried.says("40: calls that are not named there leave it");
        Tried.Call[] others = {x -> x.at(0, 0), x -> x.at(9, 9), x -> x.asks(1, 0), x -> x.asks(9, 9), x -> x.feed(0, 0, 0, 0, 0),
            x -> x.end(0), x -> x.end(-1), TurnedFloors::bricks, TurnedFloors::fault, TurnedFloors::stopped, x -> x.fewest(-1),
            x -> x.fewest(99), TurnedFloors::many, TurnedFloors::cheapest, x -> x.worst(0), x -> x.worst(9), TurnedFloors::reach,
            TurnedFloors::gaps, x -> x.comes(0), x -> x.comes(1430), x -> x.view(0), x -> x.view(9), x -> x.stays(0),
            x -> x.stays(9), TurnedFloors::forget, TurnedFloors::was, x -> x.look(0), x -> x.look(9), x -> x.few(1, 1),
            x -> x.few(0, 0), x -> x.compare(-1), x -> x.compare(9), x -> x.drawn(0, 0), x -> x.drawn(9, 9), x -> x.count(0),
            x -> x.count(99), TurnedFloors::status};
        for (int i = 0; i < others.length; i++) {
            for (int reason = 0; reason < NAMES.length; reason++) {
                TurnedFloors x = Tried.led(Tried::rich);
                REFUSED[reason].on(x);
                int[] ahead = {x.count(7), x.count(8), x.count(9), x.count(10), x.count(11)};
                others[i].on(x);
                Tried.due("status() behind other call " + i, x.status(), REASONS[reason]);
                for (int j = 0; j < ahead.length; j++) {
                    Tried.due("count(" + (7 + j) + ") behind other call " + i, x.count(7 + j), ahead[j]);
                }
            }
        }
    }
}
