/** Each promise of the document on its own: ordinary inputs, the edges that it names, wrong inputs. */
public final class PromiseTest {
    private static int wrong = 0;
    private static int checks = 0;
    private static int promise = 0;

    public static void main(String[] args) {
        newObject();
        floors();
        askingATurn();
        terms();
        tapeAndRows();
        laws();
        lawWords();
        brokenSums();
        faults();
        limits();
        ordersRun();
        ordersStop();
        ordersWords();
        moves();
        passing();
        undoing();
        fewestTurns();
        cheapestTurns();
        worstAndReach();
        searchesAfterChanges();
        gapsAndOrders();
        staying();
        guessing();
        chances();
        comparing();
        yearsByDraws();
        images();
        countsAndStatus();
        System.out.println(checks + " checks, " + wrong + " wrong");
        if (wrong != 0) {
            System.exit(1);
        }
    }

    private static void due(String call, long got, long want) {
        checks++;
        if (got != want) {
            wrong++;
            System.out.println("promise " + promise + ": " + call + " answered " + got + ", due is " + want);
        }
    }

    private static TurnedFloors tower(int... ranks) {
        TurnedFloors x = new TurnedFloors();
        for (int rank : ranks) {
            x.floor(rank, 0);
        }
        return x;
    }

    /** Lays a text on the tape, which must be empty. */
    private static void lay(TurnedFloors x, String text) {
        for (int from = 0; from < text.length(); from += 20) {
            int[] n = new int[5];
            for (int i = 0; i < 20; i++) {
                n[i / 4] = n[i / 4] << 8 | (from + i < text.length() ? text.charAt(from + i) : 0);
            }
            x.feed(n[0], n[1], n[2], n[3], n[4]);
        }
        x.end(text.length());
    }

    private static int law(TurnedFloors x, String text) {
        lay(x, text);
        return x.law();
    }

    private static int orders(TurnedFloors x, String text) {
        lay(x, text);
        return x.orders();
    }

    /** A tower under a law. */
    private static TurnedFloors ruled(String text, int... ranks) {
        TurnedFloors x = tower(ranks);
        x.force(law(x, text));
        return x;
    }

    private static String ranks(TurnedFloors x) {
        StringBuilder b = new StringBuilder();
        for (int i = 0; i < x.count(0); i++) {
            b.append(x.at(i, 0)).append(x.at(i, 1) == 1 ? "'" : "");
        }
        return b.toString();
    }

    private static void stands(String call, TurnedFloors x, String want) {
        checks++;
        if (!ranks(x).equals(want)) {
            wrong++;
            System.out.println("promise " + promise + ": behind " + call + " there is " + ranks(x) + ", due is " + want);
        }
    }

    private static void newObject() {
        promise = 1;
        TurnedFloors x = new TurnedFloors();
        int[] first = {0, 0, 0, 0, 0, 0, 0, 0, 0, 0, 0, 0, -1, 0, 1, 0, 0, 1, -1};
        for (int what = 0; what < first.length; what++) {
            due("count(" + what + ")", x.count(what), first[what]);
        }
        due("status()", x.status(), 0);
        due("fault()", x.fault(), -1);
        due("stopped()", x.stopped(), -1);
        due("bricks()", x.bricks(), 0);
        due("drawn(0,0)", x.drawn(0, 0), -1);
        due("back(0)", x.back(0), -2);
    }

    private static void floors() {
        promise = 2;
        TurnedFloors x = new TurnedFloors();
        for (int i = 0; i < 6; i++) {
            due("floor(" + (5 - i) + ")", x.floor(5 - i, i % 2), i);
        }
        due("floor(0,0), six there", x.floor(0, 0), -3);
        due("floor(6,0)", x.floor(6, 0), -1);
        due("floor(-1,0)", x.floor(-1, 0), -1);
        due("floor(0,-1)", x.floor(0, -1), -1);
        due("floor(0,2)", x.floor(0, 2), -1);
        due("status()", x.status(), -1);
        stands("six floors", x, "54'32'10'");
        promise = 3;
        due("at(1,0)", x.at(1, 0), 4);
        due("at(1,1)", x.at(1, 1), 1);
        due("at(1,2)", x.at(1, 2), 0);
        due("at(6,0)", x.at(6, 0), -1);
        due("at(-1,0)", x.at(-1, 0), -1);
        due("at(0,3)", x.at(0, 3), -1);
        due("at(0,-1)", x.at(0, -1), -1);
        due("at(6,2)", x.at(6, 2), -1);
        x.force(law(x, "tips if place = 1 or rank = 0"));
        due("at(1,2)", x.at(1, 2), 1);
        due("at(5,2)", x.at(5, 2), 1);
        due("at(2,2)", x.at(2, 2), 0);
    }

    private static void askingATurn() {
        promise = 4;
        TurnedFloors x = ruled("pays 500; bars if grip = 2", 1, 0, 2);
        due("asks(1,0): the nearest", x.asks(1, 0), 99);
        due("asks(2,0): barred pays too", x.asks(2, 0), 99);
        due("asks(2,1)", x.asks(2, 1), 1);
        due("asks(3,1)", x.asks(3, 1), 0);
        due("asks(4,0)", x.asks(4, 0), -1);
        due("asks(0,1)", x.asks(0, 1), -1);
        due("asks(1,2)", x.asks(1, 2), -1);
        due("asks(1,-1)", x.asks(1, -1), -1);
        x.force(-1);
        due("asks(3,0): as many as are gripped", x.asks(3, 0), 3);
        x = ruled("pays 0-5", 0);
        due("asks(1,0): the nearest below", x.asks(1, 0), 0);
        x = ruled("pays 7; pays 8 if grip > 1; pays 9 / [grip - 1] if grip = 1", 0, 1);
        due("asks(1,0): the last that holds", x.asks(1, 0), 7);
        due("asks(2,0)", x.asks(2, 0), 8);
    }

    private static void terms() {
        promise = 5;
        TurnedFloors x = new TurnedFloors();
        int[] most = {999, 10, 9, 1};
        int[] first = {0, 1, 0, 0};
        for (int what = 0; what < 4; what++) {
            due("terms(" + what + ", most)", x.terms(what, most[what]), first[what]);
            due("terms(" + what + ", more)", x.terms(what, most[what] + 1), -1);
            due("terms(" + what + ", -1)", x.terms(what, -1), -1);
            due("terms(" + what + ", 0)", x.terms(what, 0), most[what]);
            due("count(" + (13 + what) + ")", x.count(13 + what), 0);
        }
        due("terms(4,0)", x.terms(4, 0), -1);
        due("terms(-1,0)", x.terms(-1, 0), -1);
        due("count(7)", x.count(7), 10);
    }

    private static void tapeAndRows() {
        promise = 6;
        TurnedFloors x = new TurnedFloors();
        for (int i = 1; i <= 20; i++) {
            due("feed", x.feed(0, 0, 0, 0, 0), 20 * i);
        }
        due("feed, 400 there", x.feed(0, 0, 0, 0, 0), -1);
        promise = 7;
        due("end(401)", x.end(401), -1);
        due("end(-1)", x.end(-1), -1);
        due("end(381)", x.end(381), 381);
        due("feed, 381 there", x.feed(0, 0, 0, 0, 0), -1);
        due("end(380)", x.end(380), 380);
        due("feed, 380 there", x.feed(0, 0, 0, 0, 0), 400);
        due("count(6)", x.count(6), 400);
        due("end(400), all of them", x.end(400), 400);
        due("end(0)", x.end(0), 0);
        due("end(1)", x.end(1), -1);
        due("status()", x.status(), 0);
        promise = 8;
        due("row(), the tape is empty", x.row(), -6);
        due("status()", x.status(), -6);
        x.feed(0x02010101, 0x05000302, 0x02000600, 0x00ff0080, 0x04000000);
        x.end(17);
        due("row()", x.row(), 3);
        stands("row()", x, "2'1'5");
        due("count(6)", x.count(6), 0);
        promise = 9;
        due("bricks()", x.bricks(), 6);
        x.row();
        due("bricks(), a row refused", x.bricks(), 6);
        lay(x, "\u0000\u0001");
        due("row()", x.row(), 1);
        due("bricks()", x.bricks(), 0);
        lay(x, "\u0003\u0000\u0004\u0000\u0003\u0000");
        due("row() to six", x.row(), 2);
        due("bricks(), no room", x.bricks(), 1);
        stands("row()", x, "2'1'50'34");
    }

    private static void laws() {
        promise = 10;
        TurnedFloors x = new TurnedFloors();
        for (int i = 0; i < 6; i++) {
            due("law()", law(x, "bars"), i);
        }
        due("count(4)", x.count(4), 6);
        due("fault()", x.fault(), -1);
        due("law(), six there, a bad one", law(x, "bad"), -5);
        due("count(6)", x.count(6), 0);
        due("fault(), not read", x.fault(), -1);
        promise = 14;
        due("force(5)", x.force(5), -1);
        due("force(6)", x.force(6), -2);
        due("force(-2)", x.force(-2), -2);
        due("status()", x.status(), -2);
        due("force(-1)", x.force(-1), 5);
        due("status()", x.status(), 0);
        due("count(12)", x.count(12), -1);
        promise = 10;
        x = new TurnedFloors();
        due("law() of nothing", x.law(), -6);
        due("fault()", x.fault(), 0);
        due("law() of blanks", law(x, "   "), -6);
        due("fault()", x.fault(), 3);
        due("count(6)", x.count(6), 0);
        due("law()", law(x, " tips  if[1]=1or 2>3 "), 0);
        due("fault()", x.fault(), -1);
    }

    private static void lawWords() {
        promise = 10;
        TurnedFloors x = ruled("pays grip*10+top if head=0; pays next+50 if head=1", 3, 5, 1);
        due("asks(1,0)", x.asks(1, 0), 13);
        due("asks(2,0)", x.asks(2, 0), 23);
        x.right(0);
        due("asks(1,0): next", x.asks(1, 0), 55);
        due("asks(2,0): next", x.asks(2, 0), 51);
        due("asks(3,0): none below", x.asks(3, 0), 49);
        x = ruled("pays floors*10+[rank+1]+[place+1]", 3, 5, 1);
        due("asks: rank, place are -1", x.asks(1, 0), 30);
        x = ruled("pays year+mood*10", 2);
        x.terms(0, 7);
        x.terms(2, 4);
        due("asks: year, mood", x.asks(1, 0), 47);
        x = ruled("tips if rank=5 and place=1 and head=0 and floors=3 and grip=0-1 and top=0-1 and next=0-1", 3, 5, 1);
        due("at(1,2)", x.at(1, 2), 1);
        due("at(0,2)", x.at(0, 2), 0);
        x.right(1);
        due("at(1,2) on its head", x.at(1, 2), 0);
        x = ruled("pays 2+3*4-10/3%2-[1-3]*2", 0);
        due("2+3*4-10/3%2-[1-3]*2", x.asks(1, 0), 17);
        x = ruled("pays 50+[0-7]/2", 0);
        due("/ is cut towards 0", x.asks(1, 0), 47);
        x = ruled("pays 50+[0-7]%4", 0);
        due("% is what is left then", x.asks(1, 0), 47);
        x = ruled("pays 9-3-2", 0);
        due("from the left", x.asks(1, 0), 4);
        x = ruled("pays 1 if 1=1 or 1=1 and 1=2; pays 2 if (1=1 or 1=1) and 1=2; pays 3 if not 1=1 or 1=2", 0);
        due("and binds closer than or", x.asks(1, 0), 1);
        x = ruled("pays 5 if not not not 1 > 2", 0);
        due("not", x.asks(1, 0), 5);
    }

    private static void brokenSums() {
        promise = 10;
        TurnedFloors x = ruled("pays 1000*1000*1000-1000*1000*1000+5", 0);
        due("1,000,000,000 itself", x.asks(1, 0), 5);
        x = ruled("pays 9; pays 1000*1000*1000+1", 0);
        due("one beyond", x.asks(1, 0), 9);
        x = ruled("pays 9; pays 0-1000*1000*1000-1", 0);
        due("one beyond below", x.asks(1, 0), 9);
        x = ruled("pays 9; pays [1000*1000*1000*2]/1000", 0);
        due("beyond on the way", x.asks(1, 0), 9);
        x = ruled("pays 9; pays 5/[grip-1]; pays 5%[grip-1]", 0);
        due("by 0", x.asks(1, 0), 9);
        x = ruled("bars if not 1/0=1; bars if 1/0=1 or 1=1; bars if 1=1 and 1/0=1; tips if 1%0=0", 0, 1);
        due("a broken test does not hold", x.asks(1, 1), 0);
        due("a broken test does not hold", x.at(0, 2), 0);
        x = ruled("bars if 1=1 or 1/0=1", 0, 1);
        due("or does not ask behind", x.asks(1, 1), 1);
        x = ruled("bars if not (1=2 and 1/0=1)", 0, 1);
        due("and does not ask behind", x.asks(1, 1), 1);
        x = ruled("pays 40 if 1/0=0; pays 3/0 if 1=1", 0, 1);
        due("none holds", x.asks(2, 0), 2);
    }

    private static void fault(boolean ofOrders, String text, int place) {
        TurnedFloors x = tower(0, 1);
        int answer = ofOrders ? orders(x, text) : law(x, text);
        due((ofOrders ? "orders " : "law ") + text, answer, -6);
        due("fault() of " + text, x.fault(), place);
    }

    private static void faults() {
        promise = 12;
        fault(false, "pays", 4);
        fault(false, "pays  ", 6);
        fault(false, "pays 1 1", 7);
        fault(false, "pays 1;", 7);
        fault(false, "pays 1; ;", 8);
        fault(false, "; pays 1", 0);
        fault(false, "Pays 1", 0);
        fault(false, "payss 1", 0);
        fault(false, "paysz 1", 0);
        fault(false, "pays 1zz", 6);
        fault(false, "pays 1 }", 7);
        fault(false, "pays 1 \u00ff", 7);
        fault(false, "pays 1\u0000", 6);
        fault(false, "pays 1001", 5);
        fault(false, "pays 99999999999999999999", 5);
        fault(false, "pays -1", 5);
        fault(false, "pays (1)", 5);
        fault(false, "pays [1", 7);
        fault(false, "pays [1)", 7);
        fault(false, "pays 1 times 2", 7);
        fault(false, "bars if", 7);
        fault(false, "bars if 1", 9);
        fault(false, "bars if 1=1=1", 11);
        fault(false, "bars if (1=1", 12);
        fault(false, "bars if (1)=1", 10);
        fault(false, "bars if 1=1 and", 15);
        fault(false, "bars if done=1", 8);
        fault(false, "bars if at 1=1", 8);
        fault(false, "bars if head 1=1", 13);
        fault(false, "bars if 1=1 if 1=1", 12);
        fault(false, "bars\tif 1=1", 4);
        fault(false, "turn 1", 0);
        fault(true, "", 0);
        fault(true, "  ", 2);
        fault(true, "turn", 4);
        fault(true, "pass 1", 5);
        fault(true, "pass times", 10);
        fault(true, "pass times 0", 11);
        fault(true, "pass times 21", 11);
        fault(true, "pass times [2]", 11);
        fault(true, "pass if 1=1 times 2", 12);
        fault(true, "turn at", 7);
        fault(true, "turn at 6", 8);
        fault(true, "turn at year", 8);
        fault(true, "turn head", 9);
        fault(true, "turn head [1]", 10);
        fault(true, "turn grip", 5);
        fault(true, "bars", 0);
        TurnedFloors x = tower(0, 1);
        due("law pays 0001000", law(x, "pays 0001000"), 0);
        due("fault()", x.fault(), -1);
        orders(x, "pass;");
        due("fault() of orders()", x.fault(), 5);
        orders(x, "turn 6");
        due("fault() of orders() that can't be", x.fault(), -1);
    }

    private static void limits() {
        promise = 12;
        TurnedFloors x = tower(0, 1);
        String twelve = "bars;".repeat(11) + "bars";
        due("12 clauses", law(x, twelve), 0);
        fault(false, twelve + ";bars", 60);
        fault(false, twelve + "; ", 61);
        fault(false, twelve + " bars", 60);
        String fifty = "pays 1" + "+1".repeat(49);
        due("50 parts", law(x, fifty), 1);
        fault(false, fifty + "+1", 105);
        fault(false, fifty + " if year=1", 108);
        due("8 brackets", law(x, "pays [[[[[[[[1]]]]]]]]"), 2);
        fault(false, "pays [[[[[[[[[1]]]]]]]]]", 13);
        due("8 brackets of both kinds", law(x, "bars if ((((([[[1]]]=1)))))"), 3);
        fault(false, "bars if (((((([[[1]]]=1))))))", 16);
        due("9 brackets, one behind another", law(tower(0), "bars if (1=1)" + " and (1=1)".repeat(8)), 0);
        due("9 brackets, one behind another", law(tower(0), "pays [1]" + "+[1]".repeat(8)), 0);
        fault(false, "bars if (1=1) and ((((((((([1]=1)))))))))", 26);
        due("8 brackets, and then others", law(x, "bars if [[[[[[[[1]]]]]]]]=[[[[[[[[1]]]]]]]]"), 4);
        x.force(4);
        due("asks(1,1)", x.asks(1, 1), 1);
        due("a long row of not", law(x, "bars if " + "not ".repeat(97) + "1=1"), 5);
        x.force(5);
        due("asks(1,1)", x.asks(1, 1), 0);
        promise = 11;
        x = tower(0, 1);
        String at = "right at 0 times 20 if at 0" + "+at 0".repeat(47) + "=9";
        due("P and TIMES are no parts", orders(x, at), 0);
        fault(true, at + "+1", at.length() + 1);
    }

    private static void ordersRun() {
        promise = 11;
        TurnedFloors x = tower(2, 0, 1);
        due("orders()", orders(x, "turn 2; right 0; swap 1; pass"), 4);
        stands("orders()", x, "012'");
        due("count(6)", x.count(6), 0);
        due("count(13)", x.count(13), 1);
        due("count(2)", x.count(2), 2);
        due("count(5)", x.count(5), 4);
        due("status()", x.status(), 0);
        due("pass times 1", orders(tower(0), "pass times 1"), 1);
        due("pass times 20", orders(x, "pass times 20"), 20);
        due("count(13)", x.count(13), 21);
        due("count(5)", x.count(5), 16);
        due("each time its if is asked", orders(x, "pass times 20 if year < 25"), 4);
        due("a broken if: not run", orders(x, "turn 9 if 1/0 = 1; pass"), 1);
        due("if is asked ahead of the sum", orders(x, "turn 1/0 if 1 = 2"), 0);
        due("status()", x.status(), 0);
        due("stopped()", x.stopped(), -1);
    }

    private static void ordersStop() {
        promise = 13;
        TurnedFloors x = tower(2, 0, 1);
        x.turn(3);
        x.pass();
        due("orders()", orders(x, "pass times 20; turn 2; right 1; right 3"), -3);
        due("stopped()", x.stopped(), 3);
        due("status()", x.status(), -3);
        due("count(9)", x.count(9), 1);
        due("count(7)", x.count(7), 0);
        stands("orders()", x, "1'0'2'");
        due("count(2)", x.count(2), 3);
        due("count(13)", x.count(13), 1);
        due("count(5)", x.count(5), 2);
        due("undo()", x.undo(), 3);
        due("undo()", x.undo(), 0);
        stands("undo()", x, "201");
        due("a broken sum", orders(x, "pass; swap 0 / 0"), -3);
        due("stopped()", x.stopped(), 1);
        due("swap 5", orders(x, "swap 5"), -3);
        due("stopped()", x.stopped(), 0);
        due("right 0-1", orders(x, "right 0-1"), -3);
        due("turn 4", orders(x, "turn 4"), -3);
        x.terms(0, 998);
        due("pass times 2", orders(x, "pass times 2"), -3);
        due("count(13)", x.count(13), 998);
        due("pass", orders(x, "pass times 2 if year < 999"), 1);
        due("stopped()", x.stopped(), -1);
        orders(x, "turn 9");
        orders(x, "turn");
        due("stopped() behind a fault", x.stopped(), -1);
        x.force(law(x, "bars if grip = 3"));
        due("turn 3 barred", orders(x, "turn 1; turn 3"), -3);
        due("stopped()", x.stopped(), 1);
        due("count(2)", x.count(2), 0);
    }

    private static void ordersWords() {
        promise = 11;
        TurnedFloors x = tower(2, 0, 1);
        due("at, head", orders(x, "right 0 if at 0=2 and at 3=0-1 and head 3=0-1 and head 0=0"), 1);
        due("head", orders(x, "right 1 if head 0=1"), 1);
        due("at, head of each place", orders(x, "right 1 if at 1=0 and at 2=1 and head 1=1 and head 2=0 times 1"), -6);
        due("at, head of each place", orders(x, "right 1 times 2 if at 1=0 and at 2=1 and at 5=0-1 and head 2=0"), 2);
        due("done", orders(x, "pass times 20 if done < 3; right 2 if done = 3"), 4);
        due("latest", orders(x, "right 2 if latest=0-1; turn 3; right 0; right 0 if latest = 3"), 4);
        due("latest is of this text", orders(x, "right 0 if latest = 3"), 0);
        due("paid", orders(x, "pass if paid = 3"), 1);
        due("year", orders(x, "pass if year = 4; pass if year = 5"), 2);
        stands("orders()", x, "1'02");
        due("gaps", orders(x, "swap 0 if gaps = 1; swap 1; swap 0 if gaps = 2"), 3);
        stands("orders()", x, "201'");
        due("sums", orders(x, "turn at 0 + 1; turn gaps * 2"), 2);
        stands("orders()", x, "01'2'");
    }

    private static void moves() {
        promise = 15;
        TurnedFloors x = tower(3, 1, 4);
        due("turn(2)", x.turn(2), 2);
        stands("turn(2)", x, "1'3'4");
        due("turn(3)", x.turn(3), 3);
        stands("turn(3)", x, "4'31");
        due("count(2)", x.count(2), 5);
        due("turn(4)", x.turn(4), -3);
        due("turn(6)", x.turn(6), -3);
        due("turn(0)", x.turn(0), -1);
        due("turn(7)", x.turn(7), -1);
        due("turn(-1)", x.turn(-1), -1);
        TurnedFloors six = tower(0, 1, 2, 3, 4, 5);
        due("turn(6) of six", six.turn(6), 6);
        stands("turn(6)", six, "5'4'3'2'1'0'");
        due("count(1)", six.count(1), 6);
        x.force(law(x, "pays 99; bars if head = 0 and top = 4"));
        due("turn(1)", x.turn(1), 99);
        due("turn(1) barred", x.turn(1), -3);
        x.right(0);
        for (int i = 0; i < 110; i++) {
            x.turn(1);
            x.right(0);
        }
        due("PAID, 9,999 at most", x.count(2), 9999);
        due("turn(2)", x.turn(2), 99);
        due("PAID", x.count(2), 9999);
        promise = 16;
        x = tower(3, 1, 4);
        due("right(2)", x.right(2), 1);
        due("right(2)", x.right(2), 0);
        due("right(3)", x.right(3), -3);
        due("right(5)", x.right(5), -3);
        due("right(6)", x.right(6), -1);
        due("right(-1)", x.right(-1), -1);
        promise = 17;
        x.right(0);
        due("swap(0)", x.swap(0), 1);
        stands("swap(0)", x, "13'4");
        due("swap(2)", x.swap(2), -3);
        due("swap(4)", x.swap(4), -3);
        due("swap(5)", x.swap(5), -1);
        due("swap(-1)", x.swap(-1), -1);
    }

    private static void passing() {
        promise = 18;
        TurnedFloors x = ruled("tips if year = 0 and place > 0; tips if rank = 2 and year = 1", 2, 1, 0);
        due("pass()", x.pass(), 2);
        stands("pass()", x, "21'0'");
        due("pass()", x.pass(), 1);
        stands("pass()", x, "2'1'0'");
        due("pass()", x.pass(), 0);
        x.terms(0, 999);
        due("pass() at 999", x.pass(), -3);
        due("count(13)", x.count(13), 999);
        x.force(law(x, "tips"));
        x.terms(0, 998);
        due("pass()", x.pass(), 3);
        stands("pass()", x, "210");
    }

    private static void undoing() {
        promise = 19;
        TurnedFloors x = ruled("tips if head = 0", 2, 1, 0);
        due("undo()", x.undo(), -3);
        x.right(0);
        x.pass();
        x.swap(0);
        x.turn(3);
        stands("four moves", x, "021");
        due("undo()", x.undo(), 0);
        due("count(2)", x.count(2), 0);
        stands("undo()", x, "1'2'0'");
        due("undo()", x.undo(), 2);
        x.force(-1);
        due("undo() of a year by another law", x.undo(), 3);
        stands("undo()", x, "2'10");
        due("count(13)", x.count(13), 0);
        due("undo()", x.undo(), 1);
        due("undo()", x.undo(), -3);
        for (int i = 0; i < 17; i++) {
            x.pass();
        }
        due("count(5)", x.count(5), 16);
        for (int i = 0; i < 16; i++) {
            due("undo()", x.undo(), 3);
        }
        due("undo(), 16 are kept", x.undo(), -3);
        due("count(13)", x.count(13), 1);
        TurnedFloors y = tower(0, 1, 2);
        for (int i = 0; i < 6; i++) {
            orders(y, "turn 2; right 1; swap 0; pass");
        }
        for (int i = 0; i < 16; i++) {
            due("undo() of 24, each kind", y.undo(), 3 - i % 4);
        }
        due("count(13)", y.count(13), 2);
        due("count(2)", y.count(2), 4);
        due("count(5)", y.count(5), 0);
        stands("undo()", y, "012");
        x.pass();
        x.terms(1, 11);
        x.floor(2, 0);
        x.row();
        due("count(5) behind refused calls", x.count(5), 1);
        x.terms(1, 1);
        due("count(5) behind terms()", x.count(5), 0);
        x.pass();
        x.floor(3, 0);
        due("count(5) behind floor()", x.count(5), 0);
        x.pass();
        lay(x, "zz");
        x.row();
        due("count(5) behind row()", x.count(5), 0);
    }

    private static void fewestTurns() {
        promise = 20;
        TurnedFloors x = tower(0, 1, 2);
        due("fewest(-1), ordered", x.fewest(-1), 0);
        due("fewest(0)", x.fewest(0), -1);
        due("fewest(-2)", x.fewest(-2), -1);
        x = tower(5, 3, 4);
        // 534 -> 435 by 3, 345 by 2.
        due("fewest(-1)", x.fewest(-1), 2);
        due("fewest(0)", x.fewest(0), 3);
        due("fewest(1)", x.fewest(1), 2);
        due("fewest(2)", x.fewest(2), -1);
        x = tower(1);
        x.terms(3, 1);
        due("fewest(-1) of one floor, upright", x.fewest(-1), 0);
        x.right(0);
        due("fewest(-1) of one on its head", x.fewest(-1), 1);
        x.force(law(x, "bars"));
        due("fewest(-1), all barred", x.fewest(-1), -1);
        due("fewest(0), all barred", x.fewest(0), -1);
        promise = 21;
        due("many(), all barred", x.many(), 0);
        x = tower(1, 0);
        x.terms(3, 1);
        // 10 -> 1'0 -> 0'1 -> 01.
        due("fewest(-1)", x.fewest(-1), 3);
        due("fewest(0)", x.fewest(0), 1);
        due("fewest(1)", x.fewest(1), 2);
        due("fewest(2)", x.fewest(2), 1);
        due("many()", x.many(), 1);
        x = tower(0, 1);
        x.terms(3, 1);
        x.right(0);
        x.right(1);
        // 0'1' -> 01' -> 10' -> 1'0' -> 01, or by 2 to 10 and on as above: by turns of 1 and of 2 in turn, either first.
        due("fewest(-1)", x.fewest(-1), 4);
        due("many()", x.many(), 2);
        due("the first of the two rows", x.fewest(0), 1);
        due("the first of the two rows", x.fewest(1), 2);
        due("the first of the two rows", x.fewest(2), 1);
        due("the first of the two rows", x.fewest(3), 2);
    }

    private static void cheapestTurns() {
        promise = 22;
        TurnedFloors x = tower(1, 0);
        due("cheapest()", x.cheapest(), 2);
        x.swap(0);
        due("cheapest(), ordered", x.cheapest(), 0);
        x = ruled("pays 1; pays 50 if grip = 3", 5, 3, 4);
        // 3, 2 pays 51. Without a turn of 3 the 5 can't come to the bottom, so it is the cheapest.
        due("cheapest()", x.cheapest(), 51);
        x = ruled("pays 0; pays 9 if grip = 2 and head = 0", 1, 0);
        // The top on its head first, for nothing.
        due("cheapest()", x.cheapest(), 0);
        due("fewest(-1)", x.fewest(-1), 1);
        x = ruled("bars if grip = 2", 1, 0);
        due("cheapest(), barred", x.cheapest(), -1);
        x = ruled("pays year; bars if year = 5", 1, 0);
        x.terms(0, 4);
        due("cheapest(), YEAR as now", x.cheapest(), 4);
        x.terms(0, 5);
        due("cheapest(), YEAR as now", x.cheapest(), -1);
    }

    private static void worstAndReach() {
        promise = 23;
        TurnedFloors x = tower(4, 1);
        due("worst(0)", x.worst(0), 1);
        due("worst(1)", x.worst(1), 4);
        due("worst(2)", x.worst(2), 8);
        due("worst(3)", x.worst(3), -1);
        due("worst(-1)", x.worst(-1), -1);
        x.terms(3, 1);
        due("worst(0)", x.worst(0), 4);
        due("worst(1): 1'4' alone", x.worst(1), 1);
        due("worst(2)", x.worst(2), 8);
        x = tower(0, 1, 2, 3, 4, 5);
        due("worst(0) of six", x.worst(0), 7);
        due("worst(1): two orders of six", x.worst(1), 128);
        due("worst(2)", x.worst(2), 46080);
        x.terms(3, 1);
        due("worst(0) of six, none on its head", x.worst(0), 12);
        due("worst(1)", x.worst(1), 1);
        x.force(law(x, "bars"));
        due("worst(0), all barred", x.worst(0), 0);
        due("worst(1), all barred", x.worst(1), 1);
        due("worst(2), all barred", x.worst(2), 1);
        promise = 24;
        due("reach(), all barred", x.reach(), 1);
        x.force(-1);
        due("reach()", x.reach(), 46080);
        x.force(law(x, "bars if grip > 1"));
        due("reach(), the top one alone", x.reach(), 2);
        due("reach() of nothing", new TurnedFloors().reach(), 1);
        for (int grip = 1; grip <= 6; grip++) {
            for (int top = 0; top < 6; top++) {
                for (int next = 0; next < 6; next++) {
                    if (next != top) {
                        reachByOneTurn(grip, top, next);
                    }
                }
            }
        }
    }

    /** Of all turns one is not barred: a law's answers for two turns must never be taken for one another. */
    private static void reachByOneTurn(int grip, int top, int next) {
        TurnedFloors x = new TurnedFloors();
        x.floor(top, 0);
        for (int rank = 0; rank < 6; rank++) {
            if (x.count(0) == grip) {
                x.floor(next, 0);
            }
            if (rank != next) {
                x.floor(rank, 0);
            }
        }
        x.floor(next, 0);
        String below = grip == 6 ? "0-1" : "" + next;
        x.force(law(x, "bars if not (grip=" + grip + " and top=" + top + " and head=0 and next=" + below + ")"));
        due("reach() by " + grip + ", " + top + ", " + next, x.reach(), 2);
        due("worst(2) by " + grip + ", " + top + ", " + next, x.worst(2), orderedByOneTurn(grip, top, next));
    }

    /** The 64 ordered towers, and those that the one turn brings to order: all but the grip has its place told. */
    private static int orderedByOneTurn(int grip, int top, int next) {
        // Behind the turn the top is the lowest that was gripped, so its rank is one less than the grip.
        boolean orders = top == grip - 1 && (grip == 6 || next == grip);
        // It was upright, and what it comes from is ordered itself, if one alone was gripped.
        return orders && grip > 1 ? 64 + 32 : 64;
    }

    /** What is worked out on paper, each as the first call of its kind, and again behind every change. */
    private static void searchesAfterChanges() {
        promise = 20;
        due("many() first", tower(1, 0).many(), 1);
        due("cheapest() first", tower(1, 0).cheapest(), 2);
        due("worst(1) first", tower(1, 0).worst(1), 4);
        due("reach() first", tower(1, 0).reach(), 8);
        due("comes(1) first", tower(1, 0).comes(1), 1);
        due("view(0) first", tower(1, 0).view(0), 1);
        due("compare(-1) first", tower(1, 0).compare(-1), 1);
        due("fewest(0) first", tower(1, 0).fewest(0), 2);
        TurnedFloors x = tower(1, 0);
        due("fewest(-1)", x.fewest(-1), 1);
        x.image(0);
        x.floor(2, 0);
        due("fewest(-1), one more floor", x.fewest(-1), 1);
        due("worst(2)", x.worst(2), 48);
        x.terms(3, 1);
        due("fewest(-1), HEADS 1", x.fewest(-1), 3);
        due("many()", x.many(), 1);
        due("many() again", x.many(), 1);
        x.force(law(x, "bars if grip = 1 and year = 3"));
        due("fewest(-1), nothing barred yet", x.fewest(-1), 3);
        x.terms(0, 3);
        due("fewest(-1), barred by the year", x.fewest(-1), fewestByTwoAndThree());
        x.terms(0, 4);
        due("fewest(-1), the next year", x.fewest(-1), 3);
        x.back(0);
        due("fewest(-1), two floors again", x.fewest(-1), 1);
        due("worst(2)", x.worst(2), 8);
        due("comes(1)", x.comes(1), 1);
    }

    /** By hand: a tower of three as a text, turned by 2 and 3 alone, from 102 to 012, all upright. */
    private static int fewestByTwoAndThree() {
        java.util.List<String> line = new java.util.ArrayList<>(java.util.List.of("bac"));
        java.util.List<Integer> far = new java.util.ArrayList<>(java.util.List.of(0));
        for (int i = 0; i < line.size(); i++) {
            if (line.get(i).equals("abc")) {
                return far.get(i);
            }
            for (int k = 2; k <= 3; k++) {
                StringBuilder b = new StringBuilder(line.get(i).substring(0, k)).reverse();
                for (int j = 0; j < k; j++) {
                    b.setCharAt(j, (char) (b.charAt(j) ^ 32));
                }
                String next = b + line.get(i).substring(k);
                if (!line.contains(next)) {
                    line.add(next);
                    far.add(far.get(i) + 1);
                }
            }
        }
        return -1;
    }

    private static void gapsAndOrders() {
        promise = 25;
        due("gaps()", tower(0).gaps(), 0);
        due("gaps()", tower(5, 0).gaps(), 1);
        due("gaps()", tower(0, 5).gaps(), 0);
        due("gaps()", tower(0, 2, 5).gaps(), 0);
        due("gaps()", tower(2, 5, 0).gaps(), 2);
        due("gaps()", tower(1, 4, 0, 3, 5, 2).gaps(), 6);
        promise = 26;
        TurnedFloors x = tower(3, 0, 1);
        due("comes(301)", x.comes(301), 0);
        due("comes(13), a 0 left out", x.comes(13), 2);
        due("comes(103)", x.comes(103), 1);
        due("comes(31)", x.comes(31), 1);
        due("comes(12)", x.comes(12), -1);
        due("comes(-301)", x.comes(-301), -1);
        due("comes(1301)", x.comes(1301), -1);
        due("comes(331)", x.comes(331), -1);
        due("comes(3010)", x.comes(3010), -1);
        due("comes(0)", x.comes(0), -1);
        due("comes(0) of floor 0", tower(0).comes(0), 0);
        due("comes(0) of floor 1", tower(1).comes(0), -1);
        due("comes(2147483647)", x.comes(Integer.MAX_VALUE), -1);
        x.terms(3, 1);
        due("comes(31), heads whatever", x.comes(31), 1);
        promise = 27;
        due("view(3)", x.view(3), 0);
        due("view(1)", x.view(1), 1);
        due("view(2)", x.view(2), -1);
        due("view(-1)", x.view(-1), -1);
        due("view(6)", x.view(6), -1);
        x.force(law(x, "bars if grip = 3"));
        due("view(1) barred", x.view(1), -1);
        due("comes(103) barred", x.comes(103), -1);
        x.force(law(x, "bars if grip = 3 and top = 3"));
        due("view(1) by way of 0", x.view(1), 2);
    }

    private static void staying() {
        promise = 28;
        TurnedFloors x = tower(3, 0, 4, 1, 2, 5);
        due("stays(0)", x.stays(0), 4);
        due("stays(1): 0 1 2 5", x.stays(1), 2 + 8 + 16 + 32);
        due("stays(2)", x.stays(2), -1);
        due("stays(-1)", x.stays(-1), -1);
        x.right(3);
        due("stays(1), HEADS 0", x.stays(1), 58);
        x.terms(3, 1);
        due("stays(0), HEADS 1", x.stays(0), 3);
        due("stays(1): 3 4 5", x.stays(1), 1 + 4 + 32);
        x = tower(2, 1, 0);
        due("stays(1): the lowest", x.stays(1), 1);
        x.terms(3, 1);
        x.turn(3);
        due("stays(0), all on their heads", x.stays(0), 0);
        due("stays(1)", x.stays(1), 0);
    }

    private static void guessing() {
        promise = 29;
        TurnedFloors x = tower(3, 0, 4);
        for (int i = 1; i <= 6; i++) {
            due("seen(2,4)", x.seen(2, 4), i);
        }
        due("seen(), six there", x.seen(2, 4), -5);
        due("seen(6,0), six there", x.seen(6, 0), -1);
        due("seen(-1,0)", x.seen(-1, 0), -1);
        due("seen(0,-1)", x.seen(0, -1), -1);
        promise = 31;
        due("was()", x.was(), 2 + 4);
        promise = 32;
        due("look(0)", x.look(0), 0);
        due("look(1)", x.look(1), 1);
        due("look(2)", x.look(2), -1);
        promise = 30;
        due("forget()", x.forget(), 6);
        due("forget()", x.forget(), 0);
        promise = 31;
        due("was()", x.was(), 2 + 4 + 8);
        x.seen(5, 0);
        due("was(), no such place", x.was(), 0);
        due("look(1)", x.look(1), -1);
        x.forget();
        x.seen(0, 5);
        due("was(), no such rank", x.was(), 0);
        x.forget();
        x.force(law(x, "bars if grip = 2"));
        due("was(), not barred", x.was(), 2 + 8);
        promise = 32;
        x = tower(3, 0, 4, 1);
        x.force(law(x, "bars if grip = 1"));
        x.seen(3, 1);
        // Left are 0341, 4031: at place 0 they differ.
        due("was()", x.was(), 4 + 8);
        due("look(0)", x.look(0), 0);
        x = tower(2, 0, 1);
        x.seen(0, 2);
        due("look(0) of one left", x.look(0), 0);
        due("look(1) of one left", x.look(1), 1);
    }

    private static void chances() {
        promise = 33;
        TurnedFloors x = new TurnedFloors();
        due("few(1,0)", x.few(1, 0), 1_000_000_000_000L);
        due("few(20,99)", x.few(20, 100), -1);
        due("few(1,-1)", x.few(1, -1), -1);
        due("few(0,0)", x.few(0, 0), -1);
        due("few(21,0)", x.few(21, 0), -1);
        due("few(1,12)", x.few(1, 12), 282_429_536_481L);
        due("few(1,13): cut", x.few(1, 13), 254_186_582_832L);
        due("few(1,14): cut", x.few(1, 14), 228_767_924_548L);
        x.terms(1, 5);
        due("few(2,3)", x.few(2, 3), 500_000_000_000L);
        // Twelve halvings are whole; from the thirteenth on each of the two parts is cut by itself.
        due("few(1,13)", x.few(1, 13), 122_070_312L);
        due("few(2,13)", x.few(2, 13), 122_070_312L + 122_070_312L + 1_464_843_750L);
        x.terms(1, 10);
        due("few(20,20)", x.few(20, 20), 0);
        due("few(20,19)", x.few(20, 19), 1_000_000_000_000L);
        x.terms(1, 0);
        due("few(1,99)", x.few(1, 99), 1_000_000_000_000L);
        due("status()", x.status(), 0);
    }

    private static void comparing() {
        promise = 34;
        TurnedFloors x = ruled("bars if grip = 3", 2, 0, 1);
        due("compare(0)", x.compare(0), -1);
        due("compare(-1)", x.compare(-1), 2);
        due("compare(1)", x.compare(1), -1);
        due("compare(-2)", x.compare(-2), -1);
        law(x, "bars if grip = 3 and head = 0");
        due("compare(1)", x.compare(1), 3);
        due("fewest(-1), that in force stays", x.fewest(-1), -1);
        due("count(12)", x.count(12), 0);
    }

    private static void yearsByDraws() {
        promise = 35;
        TurnedFloors x = new TurnedFloors();
        due("years(), no floors", x.years(5, 5), -3);
        due("years(-1,5)", x.years(-1, 5), -1);
        due("years(1000001,5)", x.years(1_000_001, 5), -1);
        due("years(5,0)", x.years(5, 0), -1);
        due("years(5,61)", x.years(5, 61), -1);
        x = tower(4, 2, 0);
        // 3: 15654, 278656: 0, 1: turn 1. 368992, 9300: 4, 0: turn 5. 270215, 58596: 5, 0: turn 6: the last two can't be.
        due("years(3,3)", x.years(3, 3), 1);
        due("drawn(0,1)", x.drawn(0, 1), 1);
        due("drawn(1,1)", x.drawn(1, 1), 0);
        due("drawn(2,1)", x.drawn(2, 1), 0);
        stands("years(), on paper", x, "420");
        due("count(2)", x.count(2), 0);
        due("count(13)", x.count(13), 0);
        due("count(5)", x.count(5), 0);
        x.terms(0, 998);
        due("years(3,3) ends at 999", x.years(3, 3), 1);
        promise = 36;
        due("drawn(0,1)", x.drawn(0, 1), 1);
        due("drawn(1,1)", x.drawn(1, 1), 0);
        due("drawn(2,0)", x.drawn(2, 0), 0);
        due("drawn(3,0)", x.drawn(3, 0), -1);
        due("drawn(-1,0)", x.drawn(-1, 0), -1);
        due("drawn(0,2)", x.drawn(0, 2), -1);
        x.years(3, 0);
        due("drawn(0,1) behind a refused one", x.drawn(0, 1), 1);
        x.terms(0, 999);
        due("years(3,3) at 999", x.years(3, 3), 0);
        due("drawn(0,1)", x.drawn(0, 1), 0);
        promise = 35;
        x = ruled("pays 50; tips if year = 1", 4, 2, 0);
        due("years(3,2)", x.years(3, 2), 50);
        due("drawn(0,1): the year's tip", x.drawn(0, 1), 0);
        due("drawn(1,1): tipped", x.drawn(1, 1), 1);
        due("drawn(2,1): tipped", x.drawn(2, 1), 1);
        x.force(law(x, "bars"));
        due("years(3,2), barred", x.years(3, 2), 0);
        due("years(1000000,60)", x.years(1_000_000, 60), 0);
        x = tower(4, 2, 0, 1);
        // 0: 12345, 628841: 3, 2: right 3.
        due("years(0,1)", x.years(0, 1), 0);
        due("drawn(3,1): righted", x.drawn(3, 1), 1);
        due("drawn(2,1)", x.drawn(2, 1), 0);
        x.force(law(x, "pays 99"));
        for (int i = 0; i < 100; i++) {
            x.turn(4);
        }
        due("count(2)", x.count(2), 9900);
        due("years(3,3)", x.years(3, 3), 99);
        x.turn(4);
        due("years(3,3), PAID is 9,999 at most", x.years(3, 3), 0);
    }

    private static void images() {
        promise = 37;
        TurnedFloors x = ruled("pays 7", 2, 1);
        due("image(-1)", x.image(-1), -1);
        due("image(2)", x.image(2), -1);
        x.turn(2);
        x.terms(0, 5);
        x.terms(1, 6);
        x.terms(2, 7);
        x.terms(3, 1);
        x.seen(1, 2);
        x.turn(1);
        due("image(0)", x.image(0), 0);
        due("count(5)", x.count(5), 1);
        x.years(3, 1);
        x.floor(5, 1);
        x.pass();
        x.turn(3);
        x.terms(0, 9);
        x.terms(1, 9);
        x.terms(2, 9);
        x.terms(3, 0);
        x.seen(0, 0);
        x.force(law(x, "pays 8; bars if grip = 2"));
        lay(x, "pay");
        x.turn(1);
        promise = 38;
        due("back(1)", x.back(1), -2);
        due("back(2)", x.back(2), -1);
        due("back(-1)", x.back(-1), -1);
        due("count(5)", x.count(5), 1);
        due("back(0)", x.back(0), 0);
        stands("back(0)", x, "12'");
        int[] due = {2, 1, 14, 1, 1, 0, 3, 4, 1, 0, 0, 0, 0, 5, 6, 7, 1, 0};
        for (int what = 0; what < due.length; what++) {
            due("count(" + what + ")", x.count(what), due[what]);
        }
        due("drawn(1,0) stays", x.drawn(1, 0), 2);
        due("undo()", x.undo(), -3);
        due("asks(1,0), the law of then", x.asks(1, 0), 7);
        due("was(), seen of then", x.was(), 2);
        x.end(0);
        due("law(): the number again", law(x, "pays 3"), 1);
        due("back(0) again, images stay", x.back(0), 0);
        due("count(4)", x.count(4), 1);
        lay(x, "zzz");
        x.row();
        orders(x, "pass; turn 6");
        law(x, "bad");
        x.back(0);
        due("bricks() stays", x.bricks(), 2);
        due("stopped() stays", x.stopped(), 1);
        due("fault() stays", x.fault(), 0);
        x.forget();
        x.seen(0, 0);
        x.force(law(x, "pays 4; bars"));
        due("image(1)", x.image(1), 0);
        x.back(0);
        due("was(), seen of then", x.was(), 2);
        due("law(): the number again", law(x, "pays 5"), 1);
        x.force(1);
        due("asks(1,0)", x.asks(1, 0), 5);
        x.back(1);
        due("asks(1,0), the law of image 1", x.asks(1, 0), 4);
        due("asks(1,1), the law of image 1", x.asks(1, 1), 1);
        due("was()", x.was(), 0);
        x.force(0);
        due("asks(1,0)", x.asks(1, 0), 7);
        x.back(0);
        x.forget();
        due("was() behind forget()", x.was(), 6);
        x.image(1);
        x.pass();
        x.image(0);
        x.back(1);
        due("count(13)", x.count(13), 5);
        x.back(0);
        due("count(13)", x.count(13), 6);
    }

    private static void countsAndStatus() {
        promise = 39;
        TurnedFloors x = tower(2, 0, 1);
        x.right(1);
        x.seen(0, 0);
        lay(x, "ab");
        int[] first = {3, 1, 0, 1, 0, 1, 2};
        for (int what = 0; what < first.length; what++) {
            due("count(" + what + ")", x.count(what), first[what]);
        }
        due("count(-1)", x.count(-1), -1);
        due("count(18)", x.count(18), -1);
        x.at(9, 9);
        x.asks(9, 9);
        x.fewest(99);
        x.view(9);
        x.few(99, 9);
        x.compare(9);
        x.end(99);
        due("count(7): NONE is not refused", x.count(7), 0);
        due("status()", x.status(), 0);
        x.end(0);
        promise = 40;
        int[][] refused = {{x.floor(9, 0), -1, x.status()}, {x.floor(2, 0), -3, x.status()}, {x.terms(9, 9), -1, x.status()},
            {x.row(), -6, x.status()}, {x.law(), -6, x.status()}, {x.orders(), -6, x.status()}, {x.force(9), -2, x.status()},
            {x.turn(9), -1, x.status()}, {x.right(9), -1, x.status()}, {x.swap(9), -1, x.status()},
            {x.seen(9, 9), -1, x.status()}, {x.years(-9, 9), -1, x.status()}, {x.image(9), -1, x.status()},
            {x.back(0), -2, x.status()}, {orders(x, "turn 6"), -3, x.status()}};
        for (int i = 0; i < refused.length; i++) {
            due("refused " + i, refused[i][0], refused[i][1]);
            due("status() of refused " + i, refused[i][2], refused[i][1]);
        }
        promise = 39;
        int[] counts = {8, 2, 2, 0, 3};
        for (int i = 0; i < counts.length; i++) {
            due("count(" + (7 + i) + ")", x.count(7 + i), counts[i]);
        }
        promise = 40;
        int[] taken = {x.forget(), x.status(), x.seen(0, 0), x.status(), x.force(-1), x.status(), x.undo(), x.status(),
            x.undo(), x.status(), x.pass(), x.status(), x.feed(0, 0, 0, 0, 0), x.status()};
        int[] due = {1, -3, 1, 0, -1, 0, 1, 0, -3, -3, 0, 0, 20, 0};
        for (int i = 0; i < due.length; i++) {
            due("call " + i, taken[i], due[i]);
        }
        promise = 39;
        x = tower(0, 1);
        due("count(17)", x.count(17), 1);
        x.right(0);
        due("count(17), HEADS 0", x.count(17), 1);
        x.terms(3, 1);
        due("count(17), HEADS 1", x.count(17), 0);
        x.right(0);
        due("count(17), none on its head", x.count(17), 1);
        x.swap(0);
        due("count(17)", x.count(17), 0);
    }
}
