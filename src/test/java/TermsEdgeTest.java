/** The document's Terms I to IV: each sentence that names an edge, the last that is allowed and the first that is not. */
public final class TermsEdgeTest {
    private static final int LEAST = Integer.MIN_VALUE;
    private static final int GREATEST = Integer.MAX_VALUE;

    public static void main(String[] args) {
        floors();
        paid();
        turns();
        ordered();
        seen();
        terms();
        firstReason();
        tape();
        tokens();
        clauses();
        grammar();
        numbers();
        parts();
        brackets();
        faults();
        brokenSums();
        brokenTests();
        laws();
        lawWords();
        holds();
        ordersText();
        ordersRun();
        ordersStop();
        moves();
        Tried.finish();
    }

    private static void floors() {
        Tried.says("I: FLOORS, 6 at most");
        Tried.Lead five = x -> Tried.put(x, 5, 4, 3, 2, 1);
        Tried.Lead six = x -> Tried.put(x, 5, 4, 3, 2, 1, 0);
        Tried.due("count(0)", Tried.taken("the sixth floor()", five, x -> x.floor(0, 1), 5).count(0), 6);
        for (int rank = 0; rank < 6; rank++) {
            int again = rank;
            Tried.refused("the seventh floor(" + rank + ", 0)", six, x -> x.floor(again, 0), -3);
        }
        TurnedFloors full = Tried.led(five);
        Tried.lay(full, "\u0000\u0001\u0000\u0000\u0001\u0000");
        Tried.due("row() of the sixth and two more", full.row(), 1);
        Tried.due("bricks()", full.bricks(), 2);
        Tried.same("row()", Tried.stands(full), "543210'");

        Tried.says("I: PLACES 0 (the top), 1 .. on");
        for (int place = 0; place < 6; place++) {
            Tried.due("at(" + place + ", 0)", Tried.led(six).at(place, 0), 5 - place);
        }

        Tried.says("I: each a RANK 0 .. 5");
        for (int rank = 0; rank < 6; rank++) {
            int one = rank;
            TurnedFloors x = Tried.taken("floor(" + rank + ", 0)", y -> { }, y -> y.floor(one, 0), 0);
            Tried.same("floor()", Tried.stands(x), "" + rank);
        }
        for (int rank : new int[] {-1, 6, LEAST, GREATEST}) {
            Tried.refused("floor(" + rank + ", 0)", Tried::rich, x -> x.floor(rank, 0), -1);
        }

        Tried.says("I: (no two the same)");
        for (int rank : new int[] {0, 1, 3, 4}) {
            Tried.refused("floor(" + rank + ", 0)", Tried::rich, x -> x.floor(rank, 0), -3);
            Tried.refused("floor(" + rank + ", 1)", Tried::rich, x -> x.floor(rank, 1), -3);
        }
        TurnedFloors gone = Tried.led(Tried::rich);
        gone.back(0);
        Tried.due("floor(3, 0) behind back() to when it was not there", gone.floor(3, 0), 2);

        Tried.says("I: on its HEAD (1) or not (0)");
        Tried.same("floor(2, 0)", Tried.stands(Tried.taken("floor(2, 0)", y -> { }, y -> y.floor(2, 0), 0)), "2");
        Tried.same("floor(2, 1)", Tried.stands(Tried.taken("floor(2, 1)", y -> { }, y -> y.floor(2, 1), 0)), "2'");
        for (int head : new int[] {-1, 2, LEAST, GREATEST}) {
            Tried.refused("floor(2, " + head + ")", Tried::rich, x -> x.floor(2, head), -1);
        }
    }

    /** PAID is 9,900 by a hundred turns; law 0 pays 99, law 1 98, law 2 1, law 3 0; law 0 is in force. */
    private static void payed(TurnedFloors x) {
        x.floor(0, 0);
        x.force(Tried.law(x, "pays 99"));
        Tried.law(x, "pays 98");
        Tried.law(x, "pays 1");
        Tried.law(x, "pays 0");
        for (int i = 0; i < 5; i++) {
            Tried.orders(x, "turn 1 times 20");
        }
    }

    private static void paid() {
        Tried.says("I: PAID 0 .. 9999 (0 at first)");
        Tried.due("count(2) at first", new TurnedFloors().count(2), 0);
        TurnedFloors x = Tried.led(TermsEdgeTest::payed);
        Tried.due("count(2) behind 100 turns", x.count(2), 9900);
        Tried.due("turn(1) to just 9,999", x.turn(1), 99);
        Tried.due("count(2)", x.count(2), 9999);
        Tried.due("turn(1) at 9,999", x.turn(1), 99);
        Tried.due("count(2)", x.count(2), 9999);
        Tried.due("status()", x.status(), 0);
        x.undo();
        Tried.due("count(2), that undone", x.count(2), 9999);
        x.undo();
        Tried.due("count(2), that undone too", x.count(2), 9900);

        Tried.says("III: PAID is more by what it PAYS (9,999 at most)");
        x = Tried.led(TermsEdgeTest::payed);
        x.force(1);
        x.turn(1);
        Tried.due("count(2)", x.count(2), 9998);
        x.force(3);
        Tried.due("turn(1) that pays nothing", x.turn(1), 0);
        Tried.due("count(2)", x.count(2), 9998);
        x.force(2);
        Tried.due("turn(1)", x.turn(1), 1);
        Tried.due("count(2)", x.count(2), 9999);
        Tried.due("turn(1)", x.turn(1), 1);
        Tried.due("count(2)", x.count(2), 9999);
        x.undo();
        x.undo();
        x.force(0);
        Tried.due("turn(1) far beyond", x.turn(1), 99);
        Tried.due("count(2)", x.count(2), 9999);
        x.undo();
        Tried.due("count(2), as it was and not 9,900", x.count(2), 9998);
        Tried.due("orders() that pay far beyond", Tried.orders(x, "turn 1 times 20; right 0 if paid = 9 * 1000 + 999"), 21);
        Tried.due("count(2)", x.count(2), 9999);
    }

    private static void turns() {
        Tried.says("I: A TURN of k 1 .. 6: the k FLOORS at the top come the other way round");
        String[] behind = {"5'43210", "4'5'3210", "3'4'5'210", "2'3'4'5'10", "1'2'3'4'5'0", "0'1'2'3'4'5'"};
        for (int k = 1; k <= 6; k++) {
            int grip = k;
            TurnedFloors x = Tried.taken("turn(" + k + ")", y -> Tried.put(y, 5, 4, 3, 2, 1, 0), y -> y.turn(grip), k);
            Tried.same("turn(" + k + ")", Tried.stands(x), behind[k - 1]);
            Tried.due("count(2)", x.count(2), k);
        }
        for (int k : new int[] {0, 7, -1, LEAST, GREATEST}) {
            Tried.refused("turn(" + k + ")", Tried::rich, x -> x.turn(k), -1);
        }

        Tried.says("I: each on its HEAD, if it was not, else no more");
        TurnedFloors x = new TurnedFloors();
        x.floor(3, 1);
        x.floor(1, 0);
        x.floor(2, 1);
        x.turn(2);
        Tried.same("turn(2)", Tried.stands(x), "1'32'");
        x.turn(3);
        Tried.same("turn(3)", Tried.stands(x), "23'1");

        Tried.says("III: To TURN as many as there are at most");
        for (int floors = 0; floors < 6; floors++) {
            int all = floors;
            Tried.Lead some = y -> {
                for (int rank = 0; rank < all; rank++) {
                    y.floor(rank, 0);
                }
            };
            if (floors > 0) {
                Tried.due("count(1)", Tried.taken("turn() of all " + floors, some, y -> y.turn(all), floors).count(1), floors);
            }
            Tried.refused("turn() of one more than " + floors, some, y -> y.turn(all + 1), -3);
            Tried.refused("turn(6) of " + floors, some, y -> y.turn(6), -3);
        }

        Tried.says("III: not BARRED");
        Tried.Lead barred = y -> {
            Tried.rich(y);
            y.end(0);
            y.force(Tried.law(y, "bars if grip = 2"));
        };
        Tried.refused("turn(2) barred", barred, y -> y.turn(2), -3);
        Tried.taken("turn(1) not barred", barred, y -> y.turn(1), 1);
        Tried.taken("turn(3) not barred", barred, y -> y.turn(3), 3);
    }

    private static int orderedOf(int... ranks) {
        return Tried.tower(ranks).count(17);
    }

    private static void ordered() {
        Tried.says("I: It is ORDERED, if RANKS rise from the top");
        Tried.due("count(17) of no floors", orderedOf(), 1);
        Tried.due("count(17) of one", orderedOf(5), 1);
        Tried.due("count(17) of two", orderedOf(0, 5), 1);
        Tried.due("count(17) of two", orderedOf(5, 0), 0);
        Tried.due("count(17) of two next to one another", orderedOf(1, 0), 0);
        Tried.due("count(17) of six", orderedOf(0, 1, 2, 3, 4, 5), 1);
        Tried.due("count(17) of six, the two at the top exchanged", orderedOf(1, 0, 2, 3, 4, 5), 0);
        Tried.due("count(17) of six, the two lowest exchanged", orderedOf(0, 1, 2, 3, 5, 4), 0);

        Tried.says("I: and, if HEADS is 1, none is on its HEAD");
        for (int place = 0; place < 6; place++) {
            TurnedFloors x = Tried.tower(0, 1, 2, 3, 4, 5);
            x.right(place);
            Tried.due("count(17), HEADS 0, one on its head", x.count(17), 1);
            Tried.due("fewest(-1)", x.fewest(-1), 0);
            x.terms(3, 1);
            Tried.due("count(17), HEADS 1, one on its head at " + place, x.count(17), 0);
            x.right(place);
            Tried.due("count(17), HEADS 1, none on its head", x.count(17), 1);
        }
        TurnedFloors none = new TurnedFloors();
        none.terms(3, 1);
        Tried.due("count(17) of no floors, HEADS 1", none.count(17), 1);
    }

    private static void seen() {
        Tried.says("I: SEEN, 6 at most");
        Tried.Lead five = x -> {
            Tried.rich(x);
            for (int i = 0; i < 3; i++) {
                x.seen(1, 4);
            }
        };
        Tried.Lead six = x -> {
            five.to(x);
            x.seen(0, 1);
        };
        Tried.due("count(3)", Tried.taken("the sixth seen()", five, x -> x.seen(0, 1), 6).count(3), 6);
        Tried.refused("the seventh seen()", six, x -> x.seen(0, 1), -5);
        TurnedFloors x = Tried.led(six);
        Tried.due("forget()", x.forget(), 6);
        Tried.due("seen() behind forget()", x.seen(3, 3), 1);

        Tried.says("I: the FLOOR of a RANK is at a PLACE");
        for (int number : new int[] {0, 5}) {
            Tried.taken("seen(" + number + ", 0)", Tried::rich, y -> y.seen(number, 0), 3);
            Tried.taken("seen(0, " + number + ")", Tried::rich, y -> y.seen(0, number), 3);
        }
        for (int number : new int[] {-1, 6, LEAST, GREATEST}) {
            Tried.refused("seen(" + number + ", 0)", Tried::rich, y -> y.seen(number, 0), -1);
            Tried.refused("seen(0, " + number + ")", Tried::rich, y -> y.seen(0, number), -1);
        }
    }

    private static void terms() {
        String[] names = {"0 YEAR 0 .. 999 (0 at first)", "1 SLIPS 0 .. 10 (1)", "2 MOOD 0 .. 9 (0)", "3 HEADS 0, 1 (0)"};
        int[] first = {0, 1, 0, 0};
        int[] most = {999, 10, 9, 1};
        int[] rich = {6, 3, 4, 1};
        for (int what = 0; what < 4; what++) {
            int term = what;
            Tried.says("I: TERMS: " + names[what]);
            Tried.due("count(" + (13 + what) + ") at first", new TurnedFloors().count(13 + what), first[what]);
            for (int value : new int[] {0, most[what]}) {
                TurnedFloors x = Tried.taken("terms(" + what + ", " + value + ")", Tried::rich, y -> y.terms(term, value), rich[what]);
                for (int other = 0; other < 4; other++) {
                    Tried.due("count(" + (13 + other) + ")", x.count(13 + other), other == what ? value : rich[other]);
                }
            }
            for (int value : new int[] {-1, most[what] + 1, LEAST, GREATEST}) {
                Tried.refused("terms(" + what + ", " + value + ")", Tried::rich, y -> y.terms(term, value), -1);
            }
        }
        Tried.says("I: TERMS: 0 .. 3");
        for (int what : new int[] {-1, 4, LEAST, GREATEST}) {
            Tried.refused("terms(" + what + ", 0)", Tried::rich, y -> y.terms(what, 0), -1);
            Tried.refused("terms(" + what + ", -1)", Tried::rich, y -> y.terms(what, -1), -1);
        }
    }

    private static void sixLaws(TurnedFloors x) {
        Tried.rich(x);
        x.end(0);
        for (int i = 2; i < 6; i++) {
            Tried.law(x, "pays " + i);
        }
    }

    private static void firstReason() {
        Tried.says("I: REFUSED by: .. The first of these in that order");
        Tried.Lead six = x -> Tried.put(x, 5, 4, 3, 2, 1, 0);
        Tried.refused("floor(): -1 ahead of -3, -5", six, x -> x.floor(3, 2), -1);
        Tried.refused("floor(): -1 ahead of -5", six, x -> x.floor(6, 0), -1);
        Tried.refused("floor(): -3 ahead of -5", six, x -> x.floor(3, 0), -3);
        Tried.Lead nothing = x -> { };
        Tried.refused("turn(): -1 ahead of -3", nothing, x -> x.turn(7), -1);
        Tried.refused("right(): -1 ahead of -3", nothing, x -> x.right(6), -1);
        Tried.refused("swap(): -1 ahead of -3", nothing, x -> x.swap(5), -1);
        Tried.refused("years(): -1 ahead of -3", nothing, x -> x.years(0, 0), -1);
        Tried.refused("years(): -1 ahead of -3", nothing, x -> x.years(-1, 1), -1);
        Tried.refused("back(): -1 ahead of -2", nothing, x -> x.back(2), -1);
        Tried.Lead allBarred = x -> {
            Tried.put(x, 0, 1);
            x.force(Tried.law(x, "bars"));
        };
        Tried.refused("turn(): -1 ahead of BARRED", allBarred, x -> x.turn(0), -1);
        Tried.refused("turn(): more than there are and BARRED", allBarred, x -> x.turn(3), -3);
        Tried.Lead allSeen = x -> {
            for (int i = 0; i < 6; i++) {
                x.seen(i, i);
            }
        };
        Tried.refused("seen(): -1 ahead of -5", allSeen, x -> x.seen(0, 6), -1);
        Tried.Lead bad = x -> {
            sixLaws(x);
            Tried.lay(x, "pays");
        };
        Tried.refused("law(): -5 ahead of -6", bad, TurnedFloors::law, -5, Tried.TAPE);
        Tried.refused("law(): -5 ahead of -6, the tape empty", TermsEdgeTest::sixLaws, TurnedFloors::law, -5, Tried.TAPE);
    }

    private static Tried.Lead onTape(int bytes) {
        return x -> {
            Tried.rich(x);
            x.end(0);
            for (int i = 0; i < 20; i++) {
                x.feed(0x01000201, 0x70617373, 0x20202020, -1, 0x02000000);
            }
            x.end(bytes);
        };
    }

    private static void tape() {
        Tried.says("II: a TAPE of at most 400 bytes");
        for (int had : new int[] {0, 1, 379, 380}) {
            TurnedFloors x = Tried.led(onTape(had));
            Tried.due("feed() behind " + had, x.feed(0, 0, 0, 0, 0), had + 20);
            Tried.due("count(6)", x.count(6), had + 20);
            Tried.due("status() stays", x.status(), -6);
        }
        for (int had : new int[] {381, 399, 400}) {
            Tried.none("feed() behind " + had, onTape(had), x -> x.feed(0, 0, 0, 0, 0));
            TurnedFloors x = Tried.led(onTape(had));
            x.feed(0, 0, 0, 0, 0);
            Tried.due("count(6)", x.count(6), had);
        }

        Tried.says("II: TEXTS are on a TAPE: one of all its 400 bytes");
        Tried.lawful("pays 1" + " ".repeat(394));
        Tried.lawful(" ".repeat(396) + "bars");
        Tried.lawful("bars if 1=1" + " ".repeat(389));
        Tried.lawful("bars if " + "not ".repeat(97) + "1=1 ");
        Tried.lawFault("pays" + " ".repeat(396), 400);
        Tried.lawFault("bars" + " ".repeat(395) + "x", 399);
        Tried.ordersFault("turn" + " ".repeat(396), 400);
        TurnedFloors x = Tried.tower(0);
        Tried.due("orders() of 400 bytes", Tried.orders(x, "pass" + " ".repeat(396)), 1);
        Tried.due("orders() of 400 bytes", Tried.orders(x, "pass;" + " ".repeat(391) + "pass"), 2);

        Tried.says("IV: a ROW of all 400 bytes");
        x = Tried.tower();
        Tried.lay(x, "\u0006\u0000".repeat(198) + "\u0003\u0001\u0002\u0000");
        Tried.due("row()", x.row(), 2);
        Tried.due("bricks()", x.bricks(), 198);
        Tried.same("row()", Tried.stands(x), "3'2");
        Tried.lay(x, "\u00ff".repeat(399));
        Tried.due("row() of bricks alone", x.row(), 0);
        Tried.due("bricks(), the last of which ends within", x.bricks(), 200);
        Tried.due("status()", x.status(), 0);
    }

    private static void tokens() {
        Tried.says("II: TOKENS: longest rows of letters a .. z");
        Tried.lawFault("barsif 1=1", 0);
        Tried.lawFault("bar", 0);
        Tried.lawFault("barss", 0);
        Tried.lawFault("barsa", 0);
        Tried.lawFault("barsz", 0);
        Tried.lawFault("abars", 0);
        Tried.lawFault("zbars", 0);
        Tried.lawFault("bars if grip=1 andgrip=1", 15);
        Tried.lawFault("pa ys 1", 0);
        Tried.lawFault("bars i f 1=1", 5);
        Tried.lawFault("zpays 1", 0);
        Tried.lawFault("apays 1", 0);
        Tried.lawful("pays1if1=1or not(1<2)and[1]>0");
        Tried.lawful("bars if grip=1and top=1or next=1");

        Tried.says("II: TOKENS: longest rows of digits");
        Tried.lawFault("pays 10 01", 8);
        Tried.lawFault("pays 1 0", 7);
        Tried.due("pays 90+9", Tried.paysOf("pays 90+9"), 99);
        Tried.due("pays 12", Tried.paysOf("pays 12"), 12);

        Tried.says("II: TOKENS: single other bytes");
        Tried.lawFault("bars if 1<=1", 10);
        Tried.lawFault("bars if 1==1", 10);
        Tried.lawFault("bars if 1<>1", 10);
        Tried.lawFault("bars;;bars", 5);
        for (char sign : "`{:@AZ_!?.,&|\"'$#^~\\}\u0000\u001f\u0021\u007f\u0080\u00e1\u00ff".toCharArray()) {
            Tried.lawFault("pays 1 " + sign, 7);
            Tried.lawFault(sign + "pays 1", 0);
        }
        Tried.lawFault("Bars", 0);
        Tried.lawFault("bArs", 0);
        Tried.lawFault("bars iF 1=1", 5);

        Tried.says("II: any blanks (32) between");
        Tried.lawful("  pays   1   if  1  =  1  ");
        for (char sign : "\u0000\t\n\u000b\f\r\u001f\u00a0".toCharArray()) {
            Tried.lawFault("bars" + sign + "if 1=1", 4);
            Tried.ordersFault("turn" + sign + "1", 4);
            Tried.lawFault("bars" + sign, 4);
        }
    }

    private static void clauses() {
        Tried.says("II: CLAUSE {\";\" CLAUSE}, 12 at most");
        String twelve = "pays 1;".repeat(11) + "pays 12";
        Tried.lawful(twelve);
        Tried.due("the twelfth pays", Tried.paysOf(twelve), 12);
        Tried.due("the first of twelve", Tried.paysOf("pays 77" + ";bars".repeat(11)), 77);
        Tried.due("the twelfth bars", Tried.barsOf("pays 1;".repeat(11) + "bars"), 1);
        Tried.due("twelve orders", Tried.orders(Tried.tower(0), "pass;".repeat(11) + "pass"), 12);

        Tried.says("II: (FAULT at the 13th's first TOKEN)");
        Tried.lawFault("bars;".repeat(12) + "bars", 60);
        Tried.lawFault("bars;".repeat(12) + "   bars", 63);
        Tried.lawFault("bars;".repeat(12) + "bars;bars", 60);
        Tried.lawFault("bars;".repeat(12) + "1001", 60);
        Tried.lawFault("bars;".repeat(12), 60);
        Tried.lawFault("bars;".repeat(12) + "  ", 62);
        Tried.lawFault("bars;".repeat(11) + "bars bars", 60);
        Tried.ordersFault("pass;".repeat(12) + "pass", 60);
        Tried.ordersFault("pass;".repeat(12) + " turn 9", 61);
        Tried.ordersFault("pass;".repeat(12), 60);
    }

    private static void grammar() {
        Tried.says("II: CLAUSE {\";\" CLAUSE}");
        Tried.lawFault(";", 0);
        Tried.lawFault("bars;", 5);
        Tried.lawFault(";bars", 0);
        Tried.lawFault("bars,bars", 4);
        Tried.lawFault("if 1=1", 0);
        Tried.says("II: TEST: BOTH {\"or\" BOTH}");
        Tried.lawFault("bars if", 7);
        Tried.lawFault("bars if or 1=1", 8);
        Tried.lawFault("bars if 1=1 or", 14);
        Tried.lawFault("bars if 1=1 or or 1=1", 15);
        Tried.says("II: BOTH: PLAIN {\"and\" PLAIN}");
        Tried.lawFault("bars if and 1=1", 8);
        Tried.lawFault("bars if 1=1 and", 15);
        Tried.lawFault("bars if 1=1 and or 1=1", 16);
        Tried.lawFault("bars if 1 and 1=1", 10);
        Tried.says("II: PLAIN: \"not\" PLAIN | \"(\" TEST \")\" | SUM (\"<\" | \">\" | \"=\") SUM");
        Tried.lawFault("bars if not", 11);
        Tried.lawFault("bars if not not", 15);
        Tried.lawFault("bars if 1=1 not 1=1", 12);
        Tried.lawFault("bars if 1 = not 1", 12);
        Tried.lawFault("bars if ()", 9);
        Tried.lawFault("bars if (1=1", 12);
        Tried.lawFault("bars if (1=1]", 12);
        Tried.lawFault("bars if 1=1)", 11);
        Tried.lawFault("bars if (1)", 10);
        Tried.lawFault("bars if (1)=1", 10);
        Tried.lawFault("bars if (1=1)=1", 13);
        Tried.lawFault("bars if 1", 9);
        Tried.lawFault("bars if 1=", 10);
        Tried.lawFault("bars if =1", 8);
        Tried.lawFault("bars if 1=1<2", 11);
        Tried.says("II: SUM: TERM {(\"+\" | \"-\") TERM}");
        Tried.lawFault("pays +1", 5);
        Tried.lawFault("pays -1", 5);
        Tried.lawFault("pays 1+", 7);
        Tried.lawFault("pays 1++1", 7);
        Tried.lawFault("pays 1--1", 7);
        Tried.lawFault("pays 1 < 2", 7);
        Tried.says("II: TERM: PART {(\"*\" | \"/\" | \"%\") PART}");
        Tried.lawFault("pays *1", 5);
        Tried.lawFault("pays 1*", 7);
        Tried.lawFault("pays 1/%1", 7);
        Tried.lawFault("pays 1%", 7);
        Tried.says("II: PART: NUMBER | \"[\" SUM \"]\" | a word");
        Tried.lawFault("pays", 4);
        Tried.lawFault("pays []", 6);
        Tried.lawFault("pays [1", 7);
        Tried.lawFault("pays [1)", 7);
        Tried.lawFault("pays 1]", 6);
        Tried.lawFault("pays (1)", 5);
        Tried.lawFault("pays [1=1]", 7);
        Tried.lawFault("bars if [1=1]", 10);
        Tried.lawFault("pays pays", 5);
        Tried.lawFault("pays if 1=1", 5);
    }

    private static void numbers() {
        Tried.says("II: NUMBER (to 1,000)");
        Tried.lawful("pays 0");
        Tried.lawful("pays 1000");
        Tried.due("pays 0", Tried.paysOf("pays 0"), 0);
        Tried.due("pays 1000-901", Tried.paysOf("pays 1000-901"), 99);
        Tried.due("pays 999-950", Tried.paysOf("pays 999-950"), 49);
        String[] tooGreat = {"1001", "1010", "2000", "9999", "10000", "65536", "65537", "2147483648", "4294967296", "4294967297",
            "18446744073709551616", "18446744073709551617", "9".repeat(300), "1" + "0".repeat(300)};
        for (String digits : tooGreat) {
            Tried.lawFault("pays " + digits, 5);
            Tried.lawFault("pays 1+" + digits, 7);
            Tried.lawFault("bars if 1=" + digits, 10);
            Tried.ordersFault("turn " + digits, 5);
        }
        TurnedFloors x = Tried.tower(0, 1);
        Tried.due("orders() with 1000", Tried.orders(x, "turn 1000/500"), 1);
    }

    private static void parts() {
        Tried.says("II: 50 PARTS that are NUMBERS and words at most");
        String numbers = "pays 1" + "+1".repeat(49);
        String words = "pays top" + "+top".repeat(49);
        String both = "pays 1+top" + "+1+top".repeat(24);
        String bracketed = "pays [1]" + "+[1]".repeat(49);
        String tests = "bars if 1=1" + " and 1=1".repeat(24);
        String overClauses = "pays 1+1+1+1+1;".repeat(10) + "bars";
        for (String text : new String[] {numbers, words, both, bracketed, tests, overClauses}) {
            Tried.lawful(text);
        }
        Tried.due("50 PARTS", Tried.paysOf(numbers), 50);
        Tried.due("50 PARTS", Tried.paysOf(bracketed), 50);
        Tried.due("50 PARTS", Tried.barsOf(tests), 1);

        Tried.says("II: (FAULT at the 51st)");
        Tried.lawFault(numbers + "+1", numbers.length() + 1);
        Tried.lawFault(numbers + "+top", numbers.length() + 1);
        Tried.lawFault(numbers + " + 1001", numbers.length() + 3);
        Tried.lawFault(words + "+top", words.length() + 1);
        Tried.lawFault(words + "-1", words.length() + 1);
        Tried.lawFault(both + "*mood", both.length() + 1);
        Tried.lawFault(bracketed + "+[1]", bracketed.length() + 2);
        Tried.lawFault(tests + " and 1=1", tests.length() + 5);
        Tried.lawFault(tests + " and", tests.length() + 4);
        Tried.lawFault(overClauses + " if 1=1", overClauses.length() + 4);
        Tried.lawFault("pays 1" + "+1".repeat(48) + " if 1=1", 5 + 97 + 6);

        Tried.says("II: P, TIMES aside, NUMBERS and words count as PARTS");
        String places = "right at 0" + "*at 0".repeat(24) + "*head 1".repeat(25);
        String times = "right 0" + "*1".repeat(49) + " times 2";
        Tried.due("50 PARTS with a P", Tried.orders(Tried.tower(0, 1), places), 1);
        Tried.due("50 PARTS and TIMES", Tried.orders(Tried.tower(0, 1), times), 2);
        Tried.ordersFault(places + "*at 0", places.length() + 1);
        Tried.ordersFault(places + "*head 9", places.length() + 1);
        Tried.ordersFault(places + "*1", places.length() + 1);
        Tried.ordersFault(times + " if year=0", times.length() + 4);
        Tried.ordersFault("right 0;".repeat(11) + "right 0" + "*1".repeat(39), 8 * 11 + 7 + 38 * 2 + 1);
    }

    private static void brackets() {
        Tried.says("II: 8 brackets of both kinds within one another at most");
        String eight = "[[[[[[[[1]]]]]]]]";
        Tried.lawful("pays " + eight);
        Tried.lawful("bars if ((((((((1=1))))))))");
        Tried.lawful("bars if (((([[[[1]]]]=1))))");
        Tried.lawful("bars if (((((((1=[1])))))))");
        Tried.lawful("bars if ([[[[[[[1]]]]]]]=1)");
        Tried.lawful("bars if not(not(not(not(not(not(not(not(1=1))))))))");
        Tried.lawful("pays " + eight + "+" + eight + " if " + eight + "=" + eight);
        Tried.lawful("bars if ((((((((1=1)))))))) and ((((((((1=1)))))))) or ((((((((1=1))))))))");
        Tried.lawful("pays [1]+[1]+[1]+[1]+[1]+[1]+[1]+[1]+[1]");
        Tried.due("8 brackets", Tried.paysOf("pays [1+[1+[1+[1+[1+[1+[1+[1+1]]]]]]]]"), 9);
        Tried.due("8 brackets in orders()", Tried.orders(Tried.tower(0), "turn " + eight), 1);

        Tried.says("II: (FAULT at the 9th)");
        Tried.lawFault("pays [" + eight + "]", 13);
        Tried.lawFault("bars if (((((((((1=1)))))))))", 16);
        Tried.lawFault("bars if (((([[[[[1]]]]]=1))))", 16);
        Tried.lawFault("bars if ((((((((1=[1]))))))))", 18);
        Tried.lawFault("bars if (" + eight + "=1)", 16);
        Tried.lawFault("bars if ((((((((1=1)))))))) and (((((((((1=1)))))))))", 40);
        Tried.lawFault("bars if not(not(not(not(not(not(not(not(not(1=1)))))))))", 11 + 8 * 4);
        Tried.lawFault("pays [[[[[[[[[", 13);
        Tried.lawFault("pays " + "[".repeat(395), 13);
        Tried.lawFault("bars if " + "(".repeat(392), 16);
        Tried.ordersFault("turn [" + eight + "]", 13);
        Tried.ordersFault("pass if (((((((((1=1)))))))))", 16);
    }

    private static void faults() {
        Tried.says("II: FAULT: the first TOKEN that can't go on there");
        Tried.lawFault("pays 1001; pays 1001", 5);
        Tried.lawFault("pays 1; pays 1001", 13);
        Tried.lawFault("bars; tips; pays 1 2", 19);
        Tried.ordersFault("pass; turn; pass", 10);
        Tried.ordersFault("pass; turn 1 1", 13);
        Tried.says("II: (the end's: the TEXT's length)");
        Tried.lawFault("", 0);
        Tried.lawFault(" ", 1);
        Tried.lawFault("pays   ", 7);
        Tried.lawFault("bars if 1=  ", 12);
        Tried.lawFault("bars ;  ", 8);
        Tried.ordersFault("", 0);
        Tried.ordersFault("   ", 3);
        Tried.ordersFault("turn ", 5);
        Tried.ordersFault("pass times  ", 12);
    }

    private static void worth(String sum, int want) {
        Tried.due("pays " + sum, Tried.paysOf("pays 9; pays " + sum), want);
    }

    /** The clause with a BROKEN sum does not hold: the one ahead of it pays its 9. */
    private static void broken(String sum) {
        worth(sum, 9);
    }

    private static void brokenSums() {
        String most = "1000*1000*1000";
        Tried.says("II: Beyond 1,000,000,000 either way a SUM is BROKEN");
        worth(most, 99);
        worth(most + "-" + most + "+5", 5);
        worth("999*1000*1000+1000*1000-" + most + "+6", 6);
        worth("0-" + most, 0);
        worth("0-" + most + "+" + most + "+7", 7);
        worth("[0-" + most + "]/[0-1]-" + most + "+8", 8);
        broken(most + "+1");
        broken("1+" + most);
        broken(most + "-[0-1]");
        broken("0-" + most + "-1");
        broken("1000*1000*[1000+1]");
        broken("[0-1000]*1000*[1000+1]");
        broken(most + "+1-1");
        broken("0-" + most + "-1+1");
        broken("0*[" + most + "+1]");
        broken("[" + most + "]*[" + most + "]");
        broken("[" + most + "]*[0-" + most + "]");
        // As ints these would come round to 0 and to 1.
        broken("[65*1000+536]*[65*1000+536]");
        broken("[65*1000+536]*[65*1000+536]+1");
        broken("1000*1000*1000*1000*1000*1000*1000");

        Tried.says("II: or divided by 0");
        broken("1/0");
        broken("1%0");
        broken("0/0");
        broken("0%0");
        broken("0*[1/0]");
        broken("5/[grip-1]");
        broken("5%[grip-1]");
        broken("[0-5]/[1-1]");
        worth("0/5", 0);
        worth("0%5", 0);
        worth("8/1", 8);

        Tried.says("II: (/ cut towards 0, % what is left then)");
        worth("50+7/2", 53);
        worth("50+[0-7]/2", 47);
        worth("50+7/[0-2]", 47);
        worth("50+[0-7]/[0-2]", 53);
        worth("50+7%2", 51);
        worth("50+[0-7]%2", 49);
        worth("50+7%[0-2]", 51);
        worth("50+[0-7]%[0-2]", 49);
        worth("50+1/2", 50);
        worth("50+[0-1]/2", 50);
        worth("50+[0-1]%2", 49);
    }

    private static final String SO = "1=1";
    private static final String NOT_SO = "1=2";
    private static final String BROKEN = "1/0=1";

    private static void test(String test, String want) {
        Tried.due("bars if " + test, Tried.barsOf("bars if " + test), want.equals(SO) ? 1 : 0);
        Tried.due("bars if not (" + test + ")", Tried.barsOf("bars if not (" + test + ")"), want.equals(NOT_SO) ? 1 : 0);
    }

    private static void brokenTests() {
        Tried.says("II: a TEST is BROKEN");
        for (String sign : new String[] {"<", ">", "="}) {
            test("1/0" + sign + "1", BROKEN);
            test("1" + sign + "1/0", BROKEN);
            test("1%0" + sign + "1%0", BROKEN);
            test("1000*1000*1000+1" + sign + "1", BROKEN);
            test("not 1/0" + sign + "1", BROKEN);
            test("not not 1/0" + sign + "1", BROKEN);
            test("(1/0" + sign + "1)", BROKEN);
        }
        test("1<2", SO);
        test("2<2", NOT_SO);
        test("3<2", NOT_SO);
        test("1>2", NOT_SO);
        test("2>2", NOT_SO);
        test("3>2", SO);
        test("1=2", NOT_SO);
        test("2=2", SO);
        test("3=2", NOT_SO);
        test("1000*1000*1000 > 0-1000*1000*1000", SO);

        Tried.says("II: (\"or\", \"and\" ask what stands behind only if it can still matter)");
        String[] all = {SO, NOT_SO, BROKEN};
        for (String left : all) {
            for (String right : all) {
                String or = left.equals(NOT_SO) ? right : left;
                String and = left.equals(SO) ? right : left;
                test(left + " or " + right, or);
                test(left + " and " + right, and);
                test("(" + left + ") or (" + right + ")", or);
                for (String third : all) {
                    test(left + " or " + right + " or " + third, or.equals(NOT_SO) ? third : or);
                    test(left + " and " + right + " and " + third, and.equals(SO) ? third : and);
                    test(left + " and " + right + " or " + third, and.equals(NOT_SO) ? third : and);
                    String behind = right.equals(SO) ? third : right;
                    test(left + " or " + right + " and " + third, left.equals(NOT_SO) ? behind : left);
                    test("(" + left + " or " + right + ") and " + third, or.equals(SO) ? third : or);
                }
            }
        }
    }

    private static void laws() {
        Tried.says("II: LAWS, 6 at most");
        Tried.Lead five = x -> {
            Tried.rich(x);
            x.end(0);
            for (int i = 2; i < 5; i++) {
                Tried.law(x, "pays " + i);
            }
            Tried.lay(x, "pays 5");
        };
        TurnedFloors x = Tried.taken("the sixth law()", five, TurnedFloors::law, 5);
        Tried.due("count(4)", x.count(4), 6);
        Tried.due("force(5)", x.force(5), 1);
        Tried.due("asks(1, 0)", x.asks(1, 0), 5);
        Tried.Lead six = y -> {
            sixLaws(y);
            Tried.lay(y, "pays 6");
        };
        Tried.refused("the seventh law()", six, TurnedFloors::law, -5, Tried.TAPE);

        Tried.says("II: one is in FORCE (NONE at first: no CLAUSE)");
        x = Tried.tower(3, 1, 2);
        Tried.law(x, "pays 50; bars; tips");
        Tried.due("count(12)", x.count(12), -1);
        for (int k = 1; k <= 3; k++) {
            Tried.due("asks(" + k + ", 0)", x.asks(k, 0), k);
            Tried.due("asks(" + k + ", 1)", x.asks(k, 1), 0);
            Tried.due("at(" + (k - 1) + ", 2)", x.at(k - 1, 2), 0);
        }
        Tried.due("pass()", x.pass(), 0);

        Tried.says("II: CLAUSE: (\"pays\" SUM | \"bars\" | \"tips\") [\"if\" TEST]");
        Tried.lawFault("bars 1", 5);
        Tried.lawFault("tips 1", 5);
        Tried.lawFault("tips grip if 1=1", 5);
        Tried.lawFault("turn 1", 0);
        Tried.lawFault("pass", 0);
        Tried.lawFault("bars times 2", 5);
        Tried.lawFault("pays 1 times 2", 7);
        Tried.lawFault("bars if 1=1 if 1=1", 12);
        Tried.lawFault("bars and 1=1", 5);

        Tried.says("II: Words: \"grip\" | .. | \"mood\"");
        String[] words = {"grip", "top", "next", "head", "floors", "rank", "place", "year", "mood"};
        for (String word : words) {
            Tried.lawful("pays " + word + "; tips if " + word + "=1");
            Tried.lawFault("pays " + word + " 1", 6 + word.length());
            Tried.lawFault("pays " + word + "s", 5);
            Tried.lawFault("pays " + word.substring(1), 5);
        }
        for (String word : new String[] {"done", "latest", "paid", "gaps", "at", "turn", "times", "not", "or", "bars"}) {
            Tried.lawFault("pays " + word, 5);
        }
    }

    private static void lawWords() {
        Tried.says("II: \"pays\", \"bars\" are asked of a TURN (grip: how many; top; next: -1: none; head; floors; rank, place -1)");
        int[] ranks = {3, 5, 0, 2, 4, 1};
        TurnedFloors x = Tried.tower(ranks);
        x.right(0);
        String[] sums = {"grip", "top", "next", "head", "floors", "rank", "place", "year", "mood"};
        x.terms(0, 9);
        x.terms(2, 8);
        x.image(0);
        for (String sum : sums) {
            x.back(0);
            x.force(Tried.law(x, "pays " + sum + "+50; bars if " + sum + "=0-1"));
            for (int k = 1; k <= 6; k++) {
                int want = switch (sum) {
                    case "grip" -> k;
                    case "top" -> 3;
                    case "next" -> k == 6 ? -1 : ranks[k];
                    case "head" -> 1;
                    case "floors" -> 6;
                    case "year" -> 9;
                    case "mood" -> 8;
                    default -> -1;
                };
                Tried.due("asks(" + k + ", 0) by " + sum, x.asks(k, 0), 50 + want);
                Tried.due("asks(" + k + ", 1) by " + sum, x.asks(k, 1), want == -1 ? 1 : 0);
            }
        }
        Tried.says("II: \"tips\" of a FLOOR (rank, place, head: its own; floors; grip, top, next -1)");
        for (String sum : sums) {
            for (int value = -1; value <= 9; value++) {
                x.back(0);
                x.force(Tried.law(x, "tips if " + sum + "+1=" + (value + 1)));
                for (int place = 0; place < 6; place++) {
                    int own = switch (sum) {
                        case "rank" -> ranks[place];
                        case "place" -> place;
                        case "head" -> place == 0 ? 1 : 0;
                        case "floors" -> 6;
                        case "year" -> 9;
                        case "mood" -> 8;
                        default -> -1;
                    };
                    Tried.due("at(" + place + ", 2) by " + sum + "=" + value, x.at(place, 2), own == value ? 1 : 0);
                }
                if (value % 4 == 3) {
                    x = again(ranks);
                }
            }
            x = again(ranks);
        }
    }

    /** The same tower as a new object, so that none is used for more than 512 calls. */
    private static TurnedFloors again(int... ranks) {
        TurnedFloors x = Tried.tower(ranks);
        x.right(0);
        x.terms(0, 9);
        x.terms(2, 8);
        x.image(0);
        return x;
    }

    private static void holds() {
        Tried.says("II: A CLAUSE HOLDS, if its \"if\" is so, and neither that nor its SUM is BROKEN");
        Tried.due("an if that is so", Tried.paysOf("pays 9; pays 5 if 1=1"), 5);
        Tried.due("an if that is not so", Tried.paysOf("pays 9; pays 5 if 1=2"), 9);
        Tried.due("an if that is BROKEN", Tried.paysOf("pays 9; pays 5 if 1/0=1"), 9);
        Tried.due("an if that is so, a SUM that is BROKEN", Tried.paysOf("pays 9; pays 5/0 if 1=1"), 9);
        Tried.due("both BROKEN", Tried.paysOf("pays 9; pays 5/0 if 1/0=1"), 9);
        Tried.due("a SUM that is BROKEN, no if", Tried.paysOf("pays 9; pays 5/0"), 9);
        Tried.due("a whole one behind it", Tried.paysOf("pays 5/0; pays 9"), 9);
        Tried.due("bars without an if", Tried.barsOf("bars"), 1);
        Tried.due("bars, BROKEN", Tried.barsOf("bars if 1/0=1"), 0);
        TurnedFloors x = Tried.ruled("tips if 1/[place-1]<2", 4, 3, 2);
        Tried.due("tips, BROKEN at one place", x.pass(), 2);
        Tried.same("pass()", Tried.stands(x), "4'32'");

        Tried.says("II: A TURN PAYS 0 .. 99 (else the nearest)");
        Tried.due("pays 99", Tried.paysOf("pays 99"), 99);
        Tried.due("pays 100", Tried.paysOf("pays 100"), 99);
        Tried.due("pays 1000*1000*1000", Tried.paysOf("pays 1000*1000*1000"), 99);
        Tried.due("pays 0", Tried.paysOf("pays 0"), 0);
        Tried.due("pays 0-1", Tried.paysOf("pays 0-1"), 0);
        Tried.due("pays 0-1000*1000*1000", Tried.paysOf("pays 0-1000*1000*1000"), 0);
        for (String sum : new String[] {"100", "0-1"}) {
            int want = sum.equals("100") ? 99 : 0;
            x = Tried.ruled("pays " + sum, 1, 0);
            Tried.due("cheapest() by " + sum, x.cheapest(), want);
            Tried.due("turn(2) by " + sum, x.turn(2), want);
            Tried.due("count(2)", x.count(2), want);
        }

        Tried.says("II: as the last \"pays\" that HOLDS tells");
        Tried.due("of three", Tried.paysOf("pays 1; pays 2; pays 3"), 3);
        Tried.due("the one in the middle", Tried.paysOf("pays 1; pays 2; pays 3 if 1=2"), 2);
        Tried.due("the first", Tried.paysOf("pays 1; pays 2/0; pays 3 if 1=2"), 1);
        Tried.due("others between", Tried.paysOf("pays 1; bars; pays 2; tips; bars if 1=1"), 2);

        Tried.says("II: without as many as are gripped");
        for (String text : new String[] {"bars if 1=2", "tips", "pays 50 if 1=2", "pays 50/0", "pays 50 if 1/0=1"}) {
            x = Tried.ruled(text, 5, 4, 3, 2, 1, 0);
            for (int k = 1; k <= 6; k++) {
                Tried.due("asks(" + k + ", 0) by " + text, x.asks(k, 0), k);
            }
            Tried.due("turn(6) by " + text, x.turn(6), 6);
        }

        Tried.says("II: it is BARRED, if \"bars\" HOLDS; a FLOOR TIPS, if \"tips\" HOLDS");
        Tried.due("the first of two", Tried.barsOf("bars; bars if 1=2"), 1);
        Tried.due("the last of two", Tried.barsOf("bars if 1=2; bars"), 1);
        Tried.due("neither", Tried.barsOf("bars if 1=2; bars if 1/0=1"), 0);
        Tried.due("not by pays, tips", Tried.barsOf("pays 1; tips"), 0);
        Tried.due("the first of two", Tried.ruled("tips; tips if 1=2", 0).at(0, 2), 1);
        Tried.due("the last of two", Tried.ruled("tips if 1=2; tips", 0).at(0, 2), 1);
        Tried.due("not by pays, bars", Tried.ruled("pays 1; bars", 0).at(0, 2), 0);
    }

    private static void ordersText() {
        Tried.says("II: ORDERS: CLAUSE: (\"turn\" SUM | \"right\" SUM | \"swap\" SUM | \"pass\") [\"times\" TIMES] [\"if\" TEST]");
        Tried.ordersFault("turn", 4);
        Tried.ordersFault("right", 5);
        Tried.ordersFault("swap", 4);
        Tried.ordersFault("pass 1", 5);
        Tried.ordersFault("turns 1", 0);
        Tried.ordersFault("pays 1", 0);
        Tried.ordersFault("pass if 1=1 times 2", 12);
        Tried.ordersFault("pass times 2 times 2", 13);
        Tried.ordersFault("pass if 1=1 if 1=1", 12);
        Tried.ordersFault("turn times 2", 5);
        Tried.ordersFault("turn 1 2", 7);

        Tried.says("II: TIMES: a NUMBER 1 .. 20");
        for (int times : new int[] {1, 2, 19, 20}) {
            TurnedFloors x = Tried.tower(0);
            Tried.due("pass times " + times, Tried.orders(x, "pass times " + times), times);
            Tried.due("count(13)", x.count(13), times);
        }
        for (String times : new String[] {"0", "21", "100", "1000", "1001", "4294967297", "year", "[1]", "-1", "(1)", ";"}) {
            Tried.ordersFault("pass times " + times, 11);
        }
        Tried.ordersFault("pass times", 10);
        Tried.ordersFault("pass times if 1=1", 11);
        Tried.ordersFault("pass times 2*2", 12);

        Tried.says("II: each as often as TIMES tell (once without)");
        Tried.due("pass", Tried.orders(Tried.tower(0), "pass"), 1);
        Tried.due("all twelve by 20", Tried.orders(Tried.tower(0), "pass times 20;".repeat(11) + "pass times 20"), 240);

        Tried.says("II: Words: \"year\" | \"done\" | \"latest\" | \"paid\" | \"gaps\" | \"at\" P | \"head\" P");
        for (String word : new String[] {"year", "done", "latest", "paid", "gaps"}) {
            Tried.due("pass if " + word, Tried.orders(Tried.tower(0), "pass if " + word + "<1"), 1);
            Tried.ordersFault("turn " + word + " 1", 6 + word.length());
            Tried.ordersFault("turn " + word + "s", 5);
        }
        for (String word : new String[] {"grip", "top", "next", "floors", "rank", "place", "mood", "times", "pass", "not"}) {
            Tried.ordersFault("turn " + word, 5);
        }

        Tried.says("II: (P: a NUMBER 0 .. 5)");
        for (int place = 0; place < 6; place++) {
            TurnedFloors x = Tried.tower(5, 4, 3, 2, 1, 0);
            x.right(place);
            Tried.due("at " + place, Tried.orders(x, "pass if at " + place + "=" + (5 - place)), 1);
            Tried.due("head " + place, Tried.orders(x, "pass if head " + place + "=1"), 1);
            Tried.due("head of another", Tried.orders(x, "pass if head " + (place + 1) % 6 + "=0"), 1);
        }
        for (String word : new String[] {"at", "head"}) {
            for (String place : new String[] {"6", "10", "1000", "1001", "4294967296", "year", "[1]", "-1", ";", "at 1"}) {
                Tried.ordersFault("turn " + word + " " + place, 6 + word.length());
            }
            Tried.ordersFault("turn " + word, 5 + word.length());
        }

        Tried.says("II: -1 without a FLOOR there");
        for (int floors = 0; floors < 6; floors++) {
            TurnedFloors x = new TurnedFloors();
            for (int rank = 0; rank < floors; rank++) {
                x.floor(rank, 1);
            }
            for (int place = 0; place < 6; place++) {
                int want = place < floors ? 0 : 1;
                Tried.due("at " + place + " of " + floors, Tried.orders(x, "pass if at " + place + "=0-1"), want);
                Tried.due("head " + place + " of " + floors, Tried.orders(x, "pass if head " + place + "=0-1"), want);
            }
        }
    }

    private static void ordersRun() {
        Tried.says("II: each time its \"if\" is asked (not run, if it is not so or BROKEN), then its SUMS from the left");
        TurnedFloors x = Tried.tower(2, 0, 1);
        Tried.due("not so", Tried.orders(x, "turn 9 times 20 if 1=2"), 0);
        Tried.due("BROKEN", Tried.orders(x, "turn 9 times 20 if 1/0=1"), 0);
        Tried.due("the if ahead of the SUM", Tried.orders(x, "turn 1/0 if 1=2"), 0);
        Tried.due("status()", x.status(), 0);
        Tried.due("stopped()", x.stopped(), -1);
        Tried.due("count(5)", x.count(5), 0);
        Tried.due("asked each time", Tried.orders(x, "pass times 20 if year<7"), 7);
        Tried.due("BROKEN at one of the times", Tried.orders(x, "right 0 times 3 if 4/[done-1]>0-9"), 1);
        Tried.due("the SUM each time", Tried.orders(x, "turn done+1 times 3"), 3);
        Tried.due("count(2)", x.count(2), 6);

        Tried.says("II: done: how many were run in this TEXT");
        x = Tried.tower(2, 0, 1);
        Tried.due("done", Tried.orders(x, "pass times 20 if done<19; pass if done=19; pass if done=19"), 20);
        Tried.due("done at first", Tried.orders(x, "pass if done=0; pass if done=0"), 1);
        Tried.due("one not run is not done", Tried.orders(x, "pass if 1=2; pass if done=1; pass if done=0"), 1);

        Tried.says("II: latest: what the latest turn in it told (-1: none)");
        Tried.due("none yet", Tried.orders(x, "pass if latest=0-1"), 1);
        Tried.due("by a turn", Tried.orders(x, "turn 3; pass if latest=3; turn 2; pass if latest=2"), 4);
        Tried.due("of another TEXT", Tried.orders(x, "pass if latest=0-1"), 1);
        Tried.orders(x, "turn 3; turn 9");
        Tried.due("of a TEXT that could not be", Tried.orders(x, "pass if latest=0-1"), 1);
        Tried.due("others leave it", Tried.orders(x, "turn 3; right 1; swap 1; pass; pass if latest=3"), 5);
        x.force(Tried.law(x, "pays 0"));
        Tried.due("a turn that told 0", Tried.orders(x, "turn 3; pass if latest=0"), 2);

        Tried.says("II: year, paid, gaps: as they are then");
        x = Tried.tower(2, 0, 1);
        Tried.due("year", Tried.orders(x, "pass if year=0; pass if year=1; pass times 20 if year<2"), 2);
        Tried.due("paid", Tried.orders(x, "turn 3 if paid=0; turn 2 if paid=3; pass if paid=5"), 3);
        Tried.same("orders()", Tried.stands(x), "012'");
        Tried.due("gaps", Tried.orders(x, "swap 0 if gaps=0; swap 1 if gaps=1; pass if gaps=2"), 3);
        Tried.due("gaps of no floors", Tried.orders(Tried.tower(), "pass if gaps=0"), 1);
    }

    private static void stops(String text, int clause, Tried.Lead scene) {
        Tried.Lead lead = x -> {
            scene.to(x);
            x.end(0);
            Tried.lay(x, text);
        };
        int may = Tried.TAPE | Tried.FAULT | Tried.STOPPED;
        Tried.refused("orders() of \"" + text + "\"", lead, TurnedFloors::orders, -3, may);
        TurnedFloors x = Tried.led(lead);
        x.orders();
        Tried.due("stopped() of \"" + text + "\"", x.stopped(), clause);
        Tried.due("fault() of \"" + text + "\"", x.fault(), -1);
    }

    private static void ordersStop() {
        Tried.says("II: One that can't be (a BROKEN SUM, as turn(), .. are REFUSED) ends it: all is as it was ahead of it");
        Tried.Lead rich = Tried::rich;
        for (String sum : new String[] {"1/0", "1%0", "1000*1000*1000+1", "0-1000*1000*1000-1"}) {
            stops("pass; turn " + sum, 1, rich);
            stops("pass; right " + sum, 1, rich);
            stops("pass; swap " + sum, 1, rich);
        }
        for (String text : new String[] {"turn 0", "turn 0-1", "turn 7", "turn 5", "turn 6", "turn 1000*1000*1000", "right 0-1",
            "right 4", "right 5", "right 6", "swap 0-1", "swap 3", "swap 4", "swap 5"}) {
            stops(text, 0, rich);
            stops("turn 1; right 0; swap 1; pass; " + text, 4, rich);
            stops("pass times 20; pass if 1=2; " + text + "; pass", 2, rich);
        }
        TurnedFloors all = Tried.led(rich);
        all.end(0);
        Tried.due("the last that can be", Tried.orders(all, "turn 1; turn 4; right 0; right 3; swap 0; swap 2"), 6);

        Tried.Lead barred = x -> {
            rich.to(x);
            x.end(0);
            x.force(Tried.law(x, "bars if head=0 and grip=2"));
        };
        stops("right 0; pass; turn 2", 2, barred);
        Tried.Lead lateYear = x -> {
            rich.to(x);
            x.terms(0, 989);
            x.right(0);
        };
        stops("pass times 11", 0, lateYear);
        stops("turn 1; pass times 10; pass", 2, lateYear);
        TurnedFloors late = Tried.led(lateYear);
        late.end(0);
        Tried.due("to the last YEAR", Tried.orders(late, "pass times 10"), 10);
        Tried.due("count(13)", late.count(13), 999);

        Tried.Lead fullUndo = x -> {
            rich.to(x);
            x.end(0);
            Tried.orders(x, "right 0; swap 1; pass; turn 1; right 1 times 12");
        };
        Tried.due("count(5)", Tried.led(fullUndo).count(5), 16);
        stops("pass times 20; turn 1 times 20; turn 9", 2, fullUndo);
        stops("right 0; turn 9", 1, fullUndo);
        stops("pass;".repeat(11) + "turn 9", 11, rich);
        Tried.Lead nothing = x -> { };
        stops("turn 1", 0, nothing);
        stops("right 0", 0, nothing);
        stops("swap 0", 0, nothing);

        Tried.says("II: a FAULT: nothing is run");
        Tried.ordersFault("pass; turn 1; right 0; swap 0; turn", 35);
    }

    private static void moves() {
        Tried.says("III: To RIGHT a FLOOR: on its HEAD, if it was not, else no more");
        for (int place = 0; place < 6; place++) {
            int one = place;
            Tried.Lead six = x -> Tried.put(x, 5, 4, 3, 2, 1, 0);
            TurnedFloors x = Tried.taken("right(" + place + ")", six, y -> y.right(one), 1);
            Tried.due("count(1)", x.count(1), 1);
            Tried.due("at(" + place + ", 1)", x.at(place, 1), 1);
            Tried.due("right(" + place + ") again", x.right(place), 0);
            Tried.due("count(1)", x.count(1), 0);
            Tried.same("right() twice", Tried.stands(x), "543210");
        }

        Tried.says("III: To SWAP two FLOORS, that at a PLACE and that below it");
        String[] behind = {"4'53'21'0", "53'4'21'0", "54'23'1'0", "54'3'1'20", "54'3'201'"};
        for (int place = 0; place < 5; place++) {
            int one = place;
            Tried.Lead six = x -> {
                Tried.put(x, 5, 4, 3, 2, 1, 0);
                x.right(1);
                x.right(2);
                x.right(4);
            };
            TurnedFloors x = Tried.taken("swap(" + place + ")", six, y -> y.swap(one), 4 - place);
            Tried.same("swap(" + place + ")", Tried.stands(x), behind[place]);
        }

        Tried.says("III: A YEAR: all FLOORS that TIP (all asked as it was ahead)");
        TurnedFloors x = Tried.ruled("tips if year=998 and head=0; tips if year=998 and rank=2", 5, 2, 1);
        x.right(0);
        x.right(1);
        x.terms(0, 998);
        Tried.due("pass()", x.pass(), 2);
        Tried.same("pass()", Tried.stands(x), "5'21'");
        x = Tried.ruled("tips", 5, 4, 3, 2, 1, 0);
        x.right(2);
        Tried.due("pass(), all tip", x.pass(), 6);
        Tried.same("pass()", Tried.stands(x), "5'4'32'1'0'");
        Tried.due("pass() of no floors", Tried.ruled("tips").pass(), 0);

        Tried.says("III: it is the next YEAR (at 999 it can't be)");
        Tried.Lead last = y -> {
            Tried.rich(y);
            y.terms(0, 998);
        };
        Tried.due("count(13)", Tried.taken("pass() at 998", last, TurnedFloors::pass, 1).count(13), 999);
        Tried.Lead none = y -> {
            Tried.rich(y);
            y.terms(0, 999);
            y.right(0);
        };
        Tried.refused("pass() at 999", none, TurnedFloors::pass, -3);
        Tried.refused("pass() behind the last", y -> {
            last.to(y);
            y.pass();
        }, TurnedFloors::pass, -3);
        x = Tried.led(last);
        x.end(0);
        x.pass();
        Tried.due("orders() at 999 that ask the YEAR", Tried.orders(x, "pass times 20 if year<999"), 0);
        Tried.due("undo() of the last YEAR", x.undo(), 3);
        Tried.due("count(13)", x.count(13), 998);
        Tried.due("orders() to the last YEAR", Tried.orders(x, "pass times 20 if year<999"), 1);
        Tried.due("count(13)", x.count(13), 999);
        Tried.due("turn(1) at 999", x.turn(1), 11);
        Tried.due("terms(0, 0)", x.terms(0, 0), 999);
        Tried.due("pass() in the first YEAR", x.pass(), 1);
        Tried.due("count(13)", x.count(13), 1);
    }
}
