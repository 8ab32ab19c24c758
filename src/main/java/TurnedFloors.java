import java.util.Arrays;

/** A tower that is put in order by turning over its top; ../shared/DOC.md says what each call promises. */
public final class TurnedFloors {
    public static final int NONE = -1;

    private static final int BAD_NUMBER = -1;
    private static final int NO_SUCH = -2;
    private static final int CANNOT = -3;
    private static final int NO_ROOM = -5;
    private static final int BAD_TEXT = -6;

    private static final int FLOORS = 6;
    private static final int MOST_PAID = 9999;
    private static final int LAST_YEAR = 999;
    private static final int DEAREST = 99;
    private static final int MOST_SEEN = 6;
    private static final int MOST_LAWS = 6;
    private static final int MOST_UNDONE = 16;
    private static final int IMAGES = 2;
    private static final int TAPE = 400;
    private static final int FED = 20;
    private static final int CLAUSES = 12;
    private static final int MOST_ROWS = 1_000_000_000;
    private static final long WHOLE = 1_000_000_000_000L;
    private static final int MOST_FEW = 20;
    private static final int MOST_GRIPS = 99;
    private static final int MOST_SEED = 1_000_000;
    private static final int MOST_YEARS = 60;

    // The order of what can be undone and of the words that begin an order's CLAUSE.
    private static final int TURN = 0;
    private static final int RIGHT = 1;
    private static final int SWAP = 2;
    private static final int PASS = 3;

    // The order of the words that begin a law's CLAUSE.
    private static final int PAYS = 0;
    private static final int BARS = 1;
    private static final int TIPS = 2;

    private final State state = new State();
    private final State[] images = new State[IMAGES];
    private final boolean[] kept = new boolean[IMAGES];
    private final History history = new History();
    private final Tower drawnTower = new Tower();
    private final Machine machine = new Machine();
    private final Judge judge = new Judge(machine);
    private final Runner runner = new Runner(machine);
    private final Reader reader = new Reader();
    private final Text draft = new Text(CLAUSES, TAPE);
    private final Paper paper = new Paper();
    private final int[] tape = new int[TAPE];
    private int tapeLength = 0;
    private int faultPlace = NONE;
    private int brickCount = 0;
    private int stoppedClause = NONE;
    private final long[] chances = new long[MOST_FEW];
    private final int[] refusals = new int[1 - BAD_TEXT];
    private int latestStatus = 0;

    public TurnedFloors() {
        for (int i = 0; i < IMAGES; i++) {
            images[i] = new State();
        }
    }

    public int floor(int rank, int head) {
        if (!isRank(rank) || !isBit(head)) {
            return refuse(BAD_NUMBER);
        }
        if (state.tower.has(rank)) {
            return refuse(CANNOT);
        }
        if (!state.tower.add(rank, head)) {
            return refuse(NO_ROOM);
        }
        history.clear();
        return accept(state.tower.floors - 1);
    }

    public int at(int place, int what) {
        if (what == 2) {
            return state.tower.isFloor(place) ? bit(seated().tips(state.tower, place)) : NONE;
        }
        return state.tower.tell(place, what);
    }

    public int asks(int k, int what) {
        if (k < 1 || k > state.tower.floors) {
            return NONE;
        }
        if (what == 0) {
            return seated().payOf(state.tower, k);
        }
        return what == 1 ? bit(seated().bars(state.tower, k)) : NONE;
    }

    public int terms(int what, int value) {
        if (value < 0 || value > mostOfTerm(what)) {
            return refuse(BAD_NUMBER);
        }
        int old = state.term(what);
        state.setTerm(what, value);
        history.clear();
        return accept(old);
    }

    public int feed(int a, int b, int c, int d, int e) {
        if (tapeLength + FED > TAPE) {
            return NONE;
        }
        feedFour(a);
        feedFour(b);
        feedFour(c);
        feedFour(d);
        feedFour(e);
        return tapeLength;
    }

    public int end(int n) {
        if (n < 0 || n > tapeLength) {
            return NONE;
        }
        tapeLength = n;
        return n;
    }

    public int row() {
        if (tapeLength == 0) {
            return refuse(BAD_TEXT);
        }
        int came = 0;
        int bricksNow = 0;
        for (int i = 0; i < tapeLength; i += 2) {
            if (i + 1 < tapeLength && isNewFloor(tape[i], tape[i + 1]) && state.tower.add(tape[i], tape[i + 1])) {
                came++;
            } else {
                bricksNow++;
            }
        }
        tapeLength = 0;
        brickCount = bricksNow;
        history.clear();
        return accept(came);
    }

    public int bricks() {
        return brickCount;
    }

    public int law() {
        int length = tapeLength;
        tapeLength = 0;
        if (state.lawCount >= MOST_LAWS) {
            return refuse(NO_ROOM);
        }
        faultPlace = reader.read(tape, length, false, draft);
        if (faultPlace != NONE) {
            return refuse(BAD_TEXT);
        }
        state.laws[state.lawCount] = draft.copyOfIt();
        state.lawCount++;
        return accept(state.lawCount - 1);
    }

    public int orders() {
        int length = tapeLength;
        tapeLength = 0;
        stoppedClause = NONE;
        faultPlace = reader.read(tape, length, true, draft);
        if (faultPlace != NONE) {
            return refuse(BAD_TEXT);
        }
        stoppedClause = runner.run(draft, state.tower, seated(), history);
        return stoppedClause == NONE ? accept(runner.done) : refuse(CANNOT);
    }

    public int fault() {
        return faultPlace;
    }

    public int stopped() {
        return stoppedClause;
    }

    public int force(int law) {
        if (law != NONE && !state.isLaw(law)) {
            return refuse(NO_SUCH);
        }
        int old = state.inForce;
        state.inForce = law;
        return accept(old);
    }

    public int turn(int k) {
        return move(TURN, k);
    }

    public int right(int place) {
        return move(RIGHT, place);
    }

    public int swap(int place) {
        return move(SWAP, place);
    }

    public int pass() {
        return move(PASS, 0);
    }

    public int undo() {
        if (history.kept <= 0) {
            return refuse(CANNOT);
        }
        history.kept--;
        state.tower.unpack(history.towers[history.kept]);
        return accept(history.kinds[history.kept]);
    }

    public int fewest(int i) {
        spread(seated());
        if (i == NONE) {
            return paper.turnsToOrder();
        }
        return paper.turnOfFirstRow(i);
    }

    public int many() {
        spread(seated());
        return paper.rowsToOrder();
    }

    public int cheapest() {
        spread(seated());
        return paper.leastPaid(judge, state.tower.year);
    }

    public int worst(int what) {
        if (what < 0 || what > 2) {
            return NONE;
        }
        spread(seated());
        return paper.worstTowers(what);
    }

    public int reach() {
        spread(seated());
        return paper.towersReached();
    }

    public int gaps() {
        return state.tower.gapCount();
    }

    public int comes(int order) {
        spread(seated());
        return paper.turnsToNumber(order);
    }

    public int view(int rank) {
        if (!state.tower.has(rank)) {
            return NONE;
        }
        spread(seated());
        return paper.turnsToTop(rank);
    }

    public int stays(int what) {
        if (!isBit(what)) {
            return NONE;
        }
        int best = 0;
        for (int places = 1; places < 1 << state.tower.floors; places++) {
            // Only more FLOORS win, so the lowest PLACES of the most FLOORS are those met first.
            if (Integer.bitCount(places) > Integer.bitCount(best) && state.tower.rises(places, state.headsMatter)) {
                best = places;
            }
        }
        return what == 0 ? Integer.bitCount(best) : best;
    }

    public int seen(int place, int rank) {
        if (place < 0 || place >= FLOORS || !isRank(rank)) {
            return refuse(BAD_NUMBER);
        }
        if (state.seenCount >= MOST_SEEN) {
            return refuse(NO_ROOM);
        }
        state.seenPlace[state.seenCount] = place;
        state.seenRank[state.seenCount] = rank;
        state.seenCount++;
        return accept(state.seenCount);
    }

    public int forget() {
        int old = state.seenCount;
        state.seenCount = 0;
        return old;
    }

    public int was() {
        Judge seated = seated();
        int turns = 0;
        for (int k = 1; k <= state.tower.floors; k++) {
            if (!seated.bars(state.tower, k) && state.agrees(k)) {
                turns |= 1 << k;
            }
        }
        return turns;
    }

    public int look(int what) {
        int turns = was();
        if (turns == 0 || !isBit(what)) {
            return NONE;
        }
        int bestPlace = 0;
        int fewestLeft = state.tower.mostAlike(turns, 0);
        for (int place = 1; place < state.tower.floors; place++) {
            int left = state.tower.mostAlike(turns, place);
            if (left < fewestLeft) {
                fewestLeft = left;
                bestPlace = place;
            }
        }
        return what == 0 ? bestPlace : fewestLeft;
    }

    public long few(int k, int n) {
        if (k < 1 || k > MOST_FEW || n < 0 || n > MOST_GRIPS) {
            return NONE;
        }
        Arrays.fill(chances, 0L);
        chances[0] = WHOLE;
        for (int grip = 0; grip < n; grip++) {
            for (int slipped = k - 1; slipped >= 0; slipped--) {
                long held = chances[slipped] * (10 - state.slips) / 10;
                long slips = slipped == 0 ? 0 : chances[slipped - 1] * state.slips / 10;
                chances[slipped] = held + slips;
            }
        }
        long sum = 0;
        for (int slipped = 0; slipped < k; slipped++) {
            sum += chances[slipped];
        }
        return sum;
    }

    public int compare(int law) {
        if (law != NONE && !state.isLaw(law)) {
            return NONE;
        }
        judge.seat(state.lawAt(law), state.mood);
        spread(judge);
        return paper.turnsToOrder();
    }

    public int years(int seed, int n) {
        if (seed < 0 || seed > MOST_SEED || n < 1 || n > MOST_YEARS) {
            return refuse(BAD_NUMBER);
        }
        if (state.tower.floors == 0) {
            return refuse(CANNOT);
        }
        drawnTower.unpack(state.tower.pack());
        seated();
        int s = seed;
        for (int i = 0; i < n && drawnTower.year < LAST_YEAR; i++) {
            s = nextDraw(s);
            int first = s % 6;
            s = nextDraw(s);
            if (s % 3 == 2) {
                drawnTower.act(RIGHT, first, judge);
            } else {
                drawnTower.act(TURN, first + 1, judge);
            }
            drawnTower.act(PASS, 0, judge);
        }
        return accept(drawnTower.paid - state.tower.paid);
    }

    public int drawn(int place, int what) {
        return drawnTower.tell(place, what);
    }

    public int image(int k) {
        if (!isImage(k)) {
            return refuse(BAD_NUMBER);
        }
        images[k].copyFrom(state);
        kept[k] = true;
        return accept(0);
    }

    public int back(int k) {
        if (!isImage(k)) {
            return refuse(BAD_NUMBER);
        }
        if (!kept[k]) {
            return refuse(NO_SUCH);
        }
        state.copyFrom(images[k]);
        history.clear();
        return accept(0);
    }

    public int count(int what) {
        switch (what) {
            case 0: return state.tower.floors;
            case 1: return state.tower.onHeads();
            case 2: return state.tower.paid;
            case 3: return state.seenCount;
            case 4: return state.lawCount;
            case 5: return history.kept;
            case 6: return tapeLength;
            case 7: return refusals[-BAD_NUMBER];
            case 8: return refusals[-NO_SUCH];
            case 9: return refusals[-CANNOT];
            case 10: return refusals[-NO_ROOM];
            case 11: return refusals[-BAD_TEXT];
            case 12: return state.inForce;
            case 13:
            case 14:
            case 15:
            case 16: return state.term(what - 13);
            case 17: return bit(state.tower.rises((1 << state.tower.floors) - 1, state.headsMatter));
            default: return NONE;
        }
    }

    public int status() {
        return latestStatus;
    }

    private int refuse(int reason) {
        latestStatus = reason;
        if (reason < 0 && reason >= BAD_TEXT) {
            refusals[-reason]++;
        }
        return reason;
    }

    private int accept(int answer) {
        latestStatus = 0;
        return answer;
    }

    private int move(int kind, int number) {
        long ahead = state.tower.pack();
        int answer = state.tower.act(kind, number, seated());
        if (answer < 0) {
            return refuse(answer);
        }
        history.keep(kind, ahead);
        return accept(answer);
    }

    private Judge seated() {
        judge.seat(state.lawAt(state.inForce), state.mood);
        return judge;
    }

    private void spread(Judge seated) {
        paper.lay(state.tower, seated, state.headsMatter);
    }

    private void feedFour(int number) {
        for (int shift = 24; shift >= 0; shift -= 8) {
            if (tapeLength < TAPE) {
                tape[tapeLength] = (number >>> shift) & 255;
                tapeLength++;
            }
        }
    }

    private boolean isNewFloor(int rank, int head) {
        return isRank(rank) && isBit(head) && !state.tower.has(rank);
    }

    private static boolean isRank(int rank) {
        return rank >= 0 && rank < FLOORS;
    }

    private static boolean isBit(int number) {
        return number == 0 || number == 1;
    }

    private static boolean isImage(int k) {
        return k >= 0 && k < IMAGES;
    }

    private static int bit(boolean so) {
        return so ? 1 : 0;
    }

    private static int mostOfTerm(int what) {
        switch (what) {
            case 0: return LAST_YEAR;
            case 1: return 10;
            case 2: return 9;
            case 3: return 1;
            default: return NONE;
        }
    }

    private static int nextDraw(int s) {
        return (int) ((s * 1103L + 12345L) % 1_000_003L);
    }

    /** The floors with what they have paid and the year: all that a turn, a righting, a swap, a year changes. */
    private static final class Tower {
        private final int[] rank = new int[FLOORS];
        private final int[] head = new int[FLOORS];
        private int floors = 0;
        private int paid = 0;
        private int year = 0;

        boolean isFloor(int place) {
            return place >= 0 && place < floors;
        }

        boolean has(int wanted) {
            for (int i = 0; i < floors; i++) {
                if (rank[i] == wanted) {
                    return true;
                }
            }
            return false;
        }

        boolean add(int newRank, int newHead) {
            if (floors >= FLOORS) {
                return false;
            }
            rank[floors] = newRank;
            head[floors] = newHead;
            floors++;
            return true;
        }

        int tell(int place, int what) {
            if (!isFloor(place) || !isBit(what)) {
                return NONE;
            }
            return what == 0 ? rank[place] : head[place];
        }

        int onHeads() {
            int sum = 0;
            for (int i = 0; i < floors; i++) {
                sum += head[i];
            }
            return sum;
        }

        /** The floors, what was paid and the year in one number, so that keeping a tower makes no object. */
        long pack() {
            long packed = floors;
            for (int i = 0; i < FLOORS; i++) {
                packed = packed << 4 | rank[i] << 1 | head[i];
            }
            return (packed << 14 | paid) << 10 | year;
        }

        void unpack(long packed) {
            year = (int) (packed & 1023);
            paid = (int) (packed >> 10 & 16383);
            long rest = packed >> 24;
            for (int i = FLOORS - 1; i >= 0; i--) {
                head[i] = (int) (rest & 1);
                rank[i] = (int) (rest >> 1 & 7);
                rest = rest >> 4;
            }
            floors = Math.min(FLOORS, (int) rest);
        }

        /** What the call of that kind answers: below 0 it was refused, and nothing has changed. */
        int act(int kind, int number, Judge judge) {
            switch (kind) {
                case TURN: return turnTop(number, judge);
                case RIGHT: return rightAt(number);
                case SWAP: return swapAt(number);
                case PASS: return passYear(judge);
                default: return CANNOT;
            }
        }

        private int turnTop(int k, Judge judge) {
            if (k < 1 || k > FLOORS) {
                return BAD_NUMBER;
            }
            if (k > floors || judge.bars(this, k)) {
                return CANNOT;
            }
            int pay = judge.payOf(this, k);
            for (int low = 0, high = k - 1; low < high; low++, high--) {
                exchange(low, high);
            }
            for (int i = 0; i < k; i++) {
                head[i] = 1 - head[i];
            }
            paid = Math.min(MOST_PAID, paid + pay);
            return pay;
        }

        private int rightAt(int place) {
            if (place < 0 || place >= FLOORS) {
                return BAD_NUMBER;
            }
            if (!isFloor(place)) {
                return CANNOT;
            }
            head[place] = 1 - head[place];
            return head[place];
        }

        private int swapAt(int place) {
            if (place < 0 || place >= FLOORS - 1) {
                return BAD_NUMBER;
            }
            if (!isFloor(place + 1)) {
                return CANNOT;
            }
            exchange(place, place + 1);
            return rank[place];
        }

        private int passYear(Judge judge) {
            if (year >= LAST_YEAR) {
                return CANNOT;
            }
            int tipping = 0;
            for (int i = 0; i < floors; i++) {
                tipping |= bit(judge.tips(this, i)) << i;
            }
            // Only now: each FLOOR was to be asked of the tower as it was ahead.
            for (int i = 0; i < floors; i++) {
                head[i] ^= tipping >> i & 1;
            }
            year++;
            return Integer.bitCount(tipping);
        }

        private void exchange(int a, int b) {
            int keptRank = rank[a];
            int keptHead = head[a];
            rank[a] = rank[b];
            head[a] = head[b];
            rank[b] = keptRank;
            head[b] = keptHead;
        }

        int gapCount() {
            int sum = 0;
            for (int i = 0; i + 1 < floors; i++) {
                sum += bit(anyBetween(Math.min(rank[i], rank[i + 1]), Math.max(rank[i], rank[i + 1])));
            }
            return floors == 0 ? 0 : sum + bit(anyBetween(rank[floors - 1], FLOORS));
        }

        private boolean anyBetween(int low, int high) {
            for (int i = 0; i < floors; i++) {
                if (rank[i] > low && rank[i] < high) {
                    return true;
                }
            }
            return false;
        }

        boolean rises(int places, int headsMatter) {
            int last = NONE;
            for (int i = 0; i < floors; i++) {
                if ((places >> i & 1) == 1) {
                    if (rank[i] < last || headsMatter == 1 && head[i] == 1) {
                        return false;
                    }
                    last = rank[i];
                }
            }
            return true;
        }

        int rankBehindTurn(int k, int place) {
            int from = place < k ? k - 1 - place : place;
            return isFloor(from) ? rank[from] : NONE;
        }

        int mostAlike(int turns, int place) {
            int most = 0;
            for (int r = 0; r < FLOORS; r++) {
                int alike = 0;
                for (int k = 1; k <= floors; k++) {
                    alike += bit((turns >> k & 1) == 1 && rankBehindTurn(k, place) == r);
                }
                most = Math.max(most, alike);
            }
            return most;
        }
    }

    /** All that an IMAGE keeps. */
    private static final class State {
        private final Tower tower = new Tower();
        private int slips = 1;
        private int mood = 0;
        private int headsMatter = 0;
        private final int[] seenPlace = new int[MOST_SEEN];
        private final int[] seenRank = new int[MOST_SEEN];
        private int seenCount = 0;
        private final Text[] laws = new Text[MOST_LAWS];
        private int lawCount = 0;
        private int inForce = NONE;

        void copyFrom(State other) {
            tower.unpack(other.tower.pack());
            slips = other.slips;
            mood = other.mood;
            headsMatter = other.headsMatter;
            seenCount = other.seenCount;
            for (int i = 0; i < MOST_SEEN; i++) {
                seenPlace[i] = other.seenPlace[i];
                seenRank[i] = other.seenRank[i];
            }
            lawCount = other.lawCount;
            // A LAW is never changed once it was read, so the same one may stand in several IMAGES.
            for (int i = 0; i < MOST_LAWS; i++) {
                laws[i] = other.laws[i];
            }
            inForce = other.inForce;
        }

        int term(int what) {
            switch (what) {
                case 0: return tower.year;
                case 1: return slips;
                case 2: return mood;
                case 3: return headsMatter;
                default: return NONE;
            }
        }

        void setTerm(int what, int value) {
            switch (what) {
                case 0: tower.year = value; break;
                case 1: slips = value; break;
                case 2: mood = value; break;
                case 3: headsMatter = value; break;
                default: break;
            }
        }

        boolean isLaw(int number) {
            return number >= 0 && number < lawCount;
        }

        /** Null stands for no LAW. */
        Text lawAt(int number) {
            return isLaw(number) ? laws[number] : null;
        }

        boolean agrees(int k) {
            for (int i = 0; i < seenCount; i++) {
                if (tower.rankBehindTurn(k, seenPlace[i]) != seenRank[i]) {
                    return false;
                }
            }
            return true;
        }
    }

    /** What can be undone: the towers as they were ahead of each of the latest moves. */
    private static final class History {
        private final long[] towers = new long[MOST_UNDONE];
        private final int[] kinds = new int[MOST_UNDONE];
        private int kept = 0;
        private final long[] markedTowers = new long[MOST_UNDONE];
        private final int[] markedKinds = new int[MOST_UNDONE];
        private int markedKept = 0;

        void clear() {
            kept = 0;
        }

        void keep(int kind, long tower) {
            if (kept >= MOST_UNDONE) {
                System.arraycopy(towers, 1, towers, 0, MOST_UNDONE - 1);
                System.arraycopy(kinds, 1, kinds, 0, MOST_UNDONE - 1);
                kept = MOST_UNDONE - 1;
            }
            towers[kept] = tower;
            kinds[kept] = kind;
            kept++;
        }

        void mark() {
            System.arraycopy(towers, 0, markedTowers, 0, MOST_UNDONE);
            System.arraycopy(kinds, 0, markedKinds, 0, MOST_UNDONE);
            markedKept = kept;
        }

        void backToMark() {
            System.arraycopy(markedTowers, 0, towers, 0, MOST_UNDONE);
            System.arraycopy(markedKinds, 0, kinds, 0, MOST_UNDONE);
            kept = markedKept;
        }
    }

    /** A TEXT that was read: its clauses, and the code of their sums and tests, each clause's sum ahead of its test. */
    private static final class Text {
        private static final int NUMBER = 0;
        private static final int WORD = 1;
        private static final int ADD = 2;
        private static final int SUBTRACT = 3;
        private static final int MULTIPLY = 4;
        private static final int DIVIDE = 5;
        private static final int LEAVE = 6;
        private static final int LESS = 7;
        private static final int MORE = 8;
        private static final int EQUAL = 9;
        private static final int NOT = 10;
        private static final int AND = 11;
        private static final int OR = 12;
        private static final int OP_BITS = 4;
        private static final int OP_MASK = 15;

        private final int[] kind;
        private final int[] times;
        private final int[] sumFrom;
        private final int[] testFrom;
        private final int[] testTo;
        private final int[] code;
        private int clauses = 0;
        private int length = 0;

        Text(int clauseRoom, int codeRoom) {
            kind = new int[clauseRoom];
            times = new int[clauseRoom];
            sumFrom = new int[clauseRoom];
            testFrom = new int[clauseRoom];
            testTo = new int[clauseRoom];
            code = new int[codeRoom];
        }

        void clear() {
            clauses = 0;
            length = 0;
        }

        Text copyOfIt() {
            Text copy = new Text(clauses, length);
            copy.clauses = clauses;
            copy.length = length;
            for (int i = 0; i < clauses; i++) {
                copy.kind[i] = kind[i];
                copy.times[i] = times[i];
                copy.sumFrom[i] = sumFrom[i];
                copy.testFrom[i] = testFrom[i];
                copy.testTo[i] = testTo[i];
            }
            System.arraycopy(code, 0, copy.code, 0, length);
            return copy;
        }

        void beginClause(int clauseKind) {
            if (clauses < kind.length) {
                kind[clauses] = clauseKind;
                times[clauses] = 1;
                sumFrom[clauses] = length;
                testFrom[clauses] = length;
                testTo[clauses] = length;
                clauses++;
            }
        }

        void endSum() {
            if (clauses > 0) {
                testFrom[clauses - 1] = length;
                testTo[clauses - 1] = length;
            }
        }

        void endTest() {
            if (clauses > 0) {
                testTo[clauses - 1] = length;
            }
        }

        void setTimes(int number) {
            if (clauses > 0) {
                times[clauses - 1] = number;
            }
        }

        void emit(int op, int argument) {
            if (length < code.length) {
                code[length] = argument << OP_BITS | op;
                length++;
            }
        }

        /** Lets the AND or OR at a place leap to where the code ends now. */
        void leapHere(int op, int place) {
            if (place >= 0 && place < length) {
                code[place] = length << OP_BITS | op;
            }
        }
    }

    /** Works out sums and tests; what is BROKEN ends the work at once, since all that asked for it is BROKEN too. */
    private static final class Machine {
        private static final int MOST = 1_000_000_000;
        private static final int DEPTH = 64;

        private final int[] stack = new int[DEPTH];
        private boolean broken = false;

        /** What the sum or the test is: 0 if it is BROKEN, 1 for no code, so that a clause without a test is so. */
        int valueOf(Text text, int from, int to, int[] words) {
            broken = false;
            stack[0] = 1;
            int top = 0;
            int next = from;
            int end = Math.min(to, text.code.length);
            // Leaps go forward only, so there are never more steps than code.
            for (int step = from; step < end && next < end && !broken; step++) {
                int op = text.code[next] & Text.OP_MASK;
                int argument = text.code[next] >> Text.OP_BITS;
                int taken = op <= Text.WORD ? 0 : op < Text.NOT ? 2 : 1;
                next++;
                if (top < taken || top >= DEPTH || op == Text.WORD && argument >= words.length) {
                    broken = true;
                } else if (op == Text.NUMBER || op == Text.WORD) {
                    stack[top] = op == Text.NUMBER ? argument : words[argument];
                    top++;
                } else if (op == Text.NOT) {
                    stack[top - 1] = 1 - stack[top - 1];
                } else if (op == Text.AND || op == Text.OR) {
                    boolean decided = stack[top - 1] == (op == Text.OR ? 1 : 0);
                    next = decided ? argument : next;
                    top = decided ? top : top - 1;
                } else {
                    top--;
                    stack[top - 1] = join(op, stack[top - 1], stack[top]);
                }
            }
            return broken ? 0 : stack[0];
        }

        private int join(int op, long left, long right) {
            long joined = 0;
            switch (op) {
                case Text.ADD: joined = left + right; break;
                case Text.SUBTRACT: joined = left - right; break;
                case Text.MULTIPLY: joined = left * right; break;
                case Text.LESS: joined = left < right ? 1 : 0; break;
                case Text.MORE: joined = left > right ? 1 : 0; break;
                case Text.EQUAL: joined = left == right ? 1 : 0; break;
                default:
                    if (right == 0) {
                        broken = true;
                    } else {
                        joined = op == Text.DIVIDE ? left / right : left % right;
                    }
                    break;
            }
            if (joined > MOST || joined < -MOST) {
                broken = true;
                return 0;
            }
            return (int) joined;
        }
    }

    /** Asks a LAW of turns and floors. */
    private static final class Judge {
        // The places of the words, as Reader.LAW_WORDS has them.
        private static final int GRIP = 0;
        private static final int TOP = 1;
        private static final int NEXT = 2;
        private static final int HEAD = 3;
        private static final int ALL_FLOORS = 4;
        private static final int RANK = 5;
        private static final int PLACE = 6;
        private static final int YEAR = 7;
        private static final int MOOD = 8;
        private static final int WORDS = 9;

        private final Machine machine;
        private final int[] words = new int[WORDS];
        private Text law = null;

        Judge(Machine machine) {
            this.machine = machine;
        }

        void seat(Text newLaw, int mood) {
            law = newLaw;
            words[MOOD] = mood;
        }

        boolean bars(Tower tower, int k) {
            setTurn(tower, k);
            return anyHolds(BARS);
        }

        int payOf(Tower tower, int k) {
            setTurn(tower, k);
            return pay();
        }

        boolean tips(Tower tower, int place) {
            if (!tower.isFloor(place)) {
                return false;
            }
            setCommon(tower.floors, tower.year);
            words[GRIP] = NONE;
            words[TOP] = NONE;
            words[NEXT] = NONE;
            words[HEAD] = tower.head[place];
            words[RANK] = tower.rank[place];
            words[PLACE] = place;
            return anyHolds(TIPS);
        }

        private void setTurn(Tower tower, int k) {
            setCommon(tower.floors, tower.year);
            setGrip(k, tower.tell(0, 0), tower.tell(k, 0), tower.tell(0, 1));
        }

        void setCommon(int floors, int year) {
            words[ALL_FLOORS] = floors;
            words[YEAR] = year;
        }

        void setGrip(int grip, int top, int next, int head) {
            words[GRIP] = grip;
            words[TOP] = top;
            words[NEXT] = next;
            words[HEAD] = head;
            words[RANK] = NONE;
            words[PLACE] = NONE;
        }

        boolean anyHolds(int kind) {
            if (law == null) {
                return false;
            }
            for (int i = 0; i < law.clauses; i++) {
                if (law.kind[i] == kind && machine.valueOf(law, law.testFrom[i], law.testTo[i], words) == 1) {
                    return true;
                }
            }
            return false;
        }

        int pay() {
            if (law == null) {
                return words[GRIP];
            }
            // The last that HOLDS tells, so the first met from behind does.
            for (int i = law.clauses - 1; i >= 0; i--) {
                if (law.kind[i] == PAYS && machine.valueOf(law, law.testFrom[i], law.testTo[i], words) == 1) {
                    int sum = machine.valueOf(law, law.sumFrom[i], law.testFrom[i], words);
                    if (!machine.broken) {
                        return Math.max(0, Math.min(DEAREST, sum));
                    }
                }
            }
            return words[GRIP];
        }
    }

    /** Runs ORDERS wholly or not at all. */
    private static final class Runner {
        // The places of the words, as Reader.ORDER_WORDS has them; "at" and "head" have one for each PLACE.
        private static final int YEAR = 0;
        private static final int DONE = 1;
        private static final int LATEST = 2;
        private static final int PAID = 3;
        private static final int GAPS = 4;
        private static final int AT = 5;
        private static final int HEAD = AT + FLOORS;
        private static final int WORDS = HEAD + FLOORS;

        private final Machine machine;
        private final int[] words = new int[WORDS];
        private int done = 0;
        private int latest = NONE;

        Runner(Machine machine) {
            this.machine = machine;
        }

        /** Which clause could not be, NONE without; done tells how many were run. */
        int run(Text text, Tower tower, Judge judge, History history) {
            long ahead = tower.pack();
            history.mark();
            done = 0;
            latest = NONE;
            for (int clause = 0; clause < text.clauses; clause++) {
                for (int i = 0; i < text.times[clause]; i++) {
                    setWords(tower);
                    if (machine.valueOf(text, text.testFrom[clause], text.testTo[clause], words) == 1) {
                        long before = tower.pack();
                        int kind = text.kind[clause];
                        int number = machine.valueOf(text, text.sumFrom[clause], text.testFrom[clause], words);
                        int answer = machine.broken ? CANNOT : tower.act(kind, number, judge);
                        if (answer < 0) {
                            tower.unpack(ahead);
                            history.backToMark();
                            return clause;
                        }
                        history.keep(kind, before);
                        done++;
                        latest = kind == TURN ? answer : latest;
                    }
                }
            }
            return NONE;
        }

        private void setWords(Tower tower) {
            words[YEAR] = tower.year;
            words[DONE] = done;
            words[LATEST] = latest;
            words[PAID] = tower.paid;
            words[GAPS] = tower.gapCount();
            for (int i = 0; i < FLOORS; i++) {
                words[AT + i] = tower.tell(i, 0);
                words[HEAD + i] = tower.tell(i, 1);
            }
        }
    }

    /** Reads the TEXTS of both languages. */
    private static final class Reader {
        private static final int END = 0;
        private static final int LETTERS = 1;
        private static final int DIGITS = 2;
        private static final int SIGN = 3;

        private static final int BLANK = 32;
        private static final int MOST_NUMBER = 1000;
        private static final int MOST_PARTS = 50;
        private static final int MOST_OPEN = 8;
        private static final int MOST_TIMES = 20;

        // Each word has a blank behind it.
        private static final String LAW_KINDS = "pays bars tips ";
        private static final String LAW_WORDS = "grip top next head floors rank place year mood ";
        private static final String ORDER_KINDS = "turn right swap pass ";
        private static final String ORDER_WORDS = "year done latest paid gaps at head ";
        private static final int ORDER_WORD_AT = 5;

        private int[] bytes = null;
        private int length = 0;
        private boolean ofOrders = false;
        private Text text = null;
        private int token = END;
        private int start = 0;
        private int stop = 0;
        private int number = 0;
        private int parts = 0;
        private int open = 0;
        private int faultAt = NONE;

        /** The FAULT's place, NONE without; the text then holds what was read. */
        int read(int[] tape, int tapeLength, boolean orders, Text out) {
            bytes = tape;
            length = Math.min(tapeLength, tape.length);
            ofOrders = orders;
            text = out;
            text.clear();
            stop = 0;
            parts = 0;
            open = 0;
            faultAt = NONE;
            step();
            for (int clause = 0; clause <= CLAUSES && faultAt == NONE; clause++) {
                if (clause == CLAUSES) {
                    fail();
                } else {
                    readClause();
                }
                if (faultAt == NONE && token == END) {
                    return NONE;
                }
                expectSign(';');
            }
            return faultAt;
        }

        private void readClause() {
            int kind = wordIn(ofOrders ? ORDER_KINDS : LAW_KINDS);
            if (kind == NONE) {
                fail();
                return;
            }
            text.beginClause(kind);
            step();
            if (ofOrders ? kind != PASS : kind == PAYS) {
                readSum();
                text.endSum();
            }
            if (ofOrders && faultAt == NONE && isWord("times")) {
                step();
                readTimes();
            }
            if (faultAt == NONE && isWord("if")) {
                step();
                readTest();
                text.endTest();
            }
        }

        private void readTimes() {
            if (token != DIGITS || number < 1 || number > MOST_TIMES) {
                fail();
                return;
            }
            text.setTimes(number);
            step();
        }

        private void readTest() {
            readBoth();
            for (int i = 0; i < length && faultAt == NONE && isWord("or"); i++) {
                int place = text.length;
                text.emit(Text.OR, 0);
                step();
                readBoth();
                text.leapHere(Text.OR, place);
            }
        }

        private void readBoth() {
            readPlain();
            for (int i = 0; i < length && faultAt == NONE && isWord("and"); i++) {
                int place = text.length;
                text.emit(Text.AND, 0);
                step();
                readPlain();
                text.leapHere(Text.AND, place);
            }
        }

        private void readPlain() {
            boolean turned = false;
            // A loop, since a row of "not" may be as long as the tape, and no limit keeps a recursion low.
            for (int i = 0; i < length && isWord("not"); i++) {
                turned = !turned;
                step();
            }
            if (isSign('(')) {
                if (openBracket()) {
                    readTest();
                    open--;
                    expectSign(')');
                }
            } else {
                readSum();
                int op = signIn("<>=", Text.LESS);
                if (faultAt != NONE || op == NONE) {
                    fail();
                    return;
                }
                step();
                readSum();
                text.emit(op, 0);
            }
            if (turned) {
                text.emit(Text.NOT, 0);
            }
        }

        private void readSum() {
            readTerm();
            for (int i = 0; i < length && faultAt == NONE; i++) {
                int op = signIn("+-", Text.ADD);
                if (op == NONE) {
                    return;
                }
                step();
                readTerm();
                text.emit(op, 0);
            }
        }

        private void readTerm() {
            readPart();
            for (int i = 0; i < length && faultAt == NONE; i++) {
                int op = signIn("*/%", Text.MULTIPLY);
                if (op == NONE) {
                    return;
                }
                step();
                readPart();
                text.emit(op, 0);
            }
        }

        private void readPart() {
            if (isSign('[')) {
                if (openBracket()) {
                    readSum();
                    open--;
                    expectSign(']');
                }
                return;
            }
            int word = wordIn(ofOrders ? ORDER_WORDS : LAW_WORDS);
            boolean isNumber = token == DIGITS && number <= MOST_NUMBER;
            if (word == NONE && !isNumber || parts >= MOST_PARTS) {
                fail();
                return;
            }
            parts++;
            int value = number;
            step();
            if (isNumber) {
                text.emit(Text.NUMBER, value);
            } else if (ofOrders && word >= ORDER_WORD_AT) {
                readPlace(word == ORDER_WORD_AT ? Runner.AT : Runner.HEAD);
            } else {
                text.emit(Text.WORD, word);
            }
        }

        private void readPlace(int firstWord) {
            if (token != DIGITS || number >= FLOORS) {
                fail();
                return;
            }
            text.emit(Text.WORD, firstWord + number);
            step();
        }

        private boolean openBracket() {
            if (open >= MOST_OPEN) {
                fail();
                return false;
            }
            open++;
            step();
            return true;
        }

        private void expectSign(char sign) {
            if (isSign(sign)) {
                step();
            } else {
                fail();
            }
        }

        /** The TOKEN in hand can't go on; nothing is read behind it. */
        private void fail() {
            if (faultAt == NONE) {
                faultAt = start;
            }
        }

        private void step() {
            if (faultAt != NONE) {
                return;
            }
            start = stop;
            while (start < length && bytes[start] == BLANK) {
                start++;
            }
            stop = start;
            number = 0;
            token = END;
            if (start >= length) {
                return;
            }
            token = tokenOf(bytes[start]);
            stop++;
            while (stop < length && token != SIGN && tokenOf(bytes[stop]) == token) {
                stop++;
            }
            for (int i = start; i < stop && token == DIGITS; i++) {
                // Held just beyond what any NUMBER may be, however many digits come.
                number = Math.min(MOST_NUMBER + 1, number * 10 + bytes[i] - '0');
            }
        }

        private static int tokenOf(int sign) {
            if (sign >= 'a' && sign <= 'z') {
                return LETTERS;
            }
            return sign >= '0' && sign <= '9' ? DIGITS : SIGN;
        }

        private boolean isSign(char sign) {
            return token == SIGN && start < length && bytes[start] == sign;
        }

        private int signIn(String signs, int firstOp) {
            for (int i = 0; i < signs.length(); i++) {
                if (isSign(signs.charAt(i))) {
                    return firstOp + i;
                }
            }
            return NONE;
        }

        private boolean isWord(String word) {
            return token == LETTERS && isSame(word, 0, word.length());
        }

        private int wordIn(String words) {
            int index = 0;
            int from = 0;
            for (int i = 0; i < words.length() && token == LETTERS; i++) {
                if (words.charAt(i) == ' ') {
                    if (isSame(words, from, i)) {
                        return index;
                    }
                    index++;
                    from = i + 1;
                }
            }
            return NONE;
        }

        private boolean isSame(String words, int from, int to) {
            if (to - from != stop - start) {
                return false;
            }
            for (int i = from; i < to; i++) {
                if (words.charAt(i) != bytes[start + i - from]) {
                    return false;
                }
            }
            return true;
        }
    }

    /**
     * What is worked out on paper over all towers of the ranks there are. A tower is a number: its order's number,
     * and in the bits below that, which places are on their heads. The rising order is number 0, and orders that leave
     * the lowest floors alone have the lowest numbers, so that one list of orders serves for any number of floors.
     */
    private static final class Paper {
        private static final int[] FACTORIALS = {1, 1, 2, 6, 24, 120, 720};
        private static final int BELOW_NONE = FLOORS;
        private static final int CASES = FLOORS * FLOORS * (FLOORS + 1) * 2;
        private static final int BUCKETS = DEAREST + 1;
        private static final int FAR = 2_000_000_000;
        private static final int AIM_NOTHING = 0;
        private static final int AIM_ORDER = 1;
        private static final int AIM_TOP = 2;

        private final int[] ranks = new int[FLOORS];
        private final int[] digits = new int[FLOORS];
        private final int[] barred = new int[CASES];
        private final int[] pays = new int[CASES];
        private final int[] measuredBarred = new int[CASES];
        private final int[] buckets = new int[BUCKETS];
        private int[] orders = new int[0];
        private int[] turnedOrders = new int[0];
        private int[] turnedHeads = new int[0];
        private int[] toOrder = new int[0];
        private int[] marks = new int[0];
        private int[] line = new int[0];
        private int[] links = new int[0];
        private int floors = 0;
        private int size = 0;
        private int start = 0;
        private int headsMatter = 0;
        private int measuredFloors = NONE;
        private int measuredHeads = NONE;
        private int visited = 0;

        /** Comes first: lays out the tower that is asked about, and the turns that the law seated bars. */
        void lay(Tower tower, Judge judge, int heads) {
            floors = tower.floors;
            headsMatter = heads;
            size = FACTORIALS[floors] << floors;
            if (size > toOrder.length) {
                makeRoom();
            }
            int found = 0;
            for (int r = 0; r < FLOORS; r++) {
                if (tower.has(r) && found < FLOORS) {
                    ranks[found] = r;
                    found++;
                }
            }
            int headBits = 0;
            for (int i = 0; i < FLOORS; i++) {
                digits[i] = i < floors ? indexOfRank(tower.rank[i]) : i;
                headBits |= i < floors ? tower.head[i] << i : 0;
            }
            start = Math.min(size - 1, numberOfOrder() << floors | headBits);
            askCases(judge, tower.year, BARS);
        }

        int turnsToOrder() {
            measure();
            return toOrder[start];
        }

        int turnOfFirstRow(int i) {
            measure();
            if (i < 0 || i >= toOrder[start]) {
                return NONE;
            }
            int tower = start;
            for (int done = 0; done < i; done++) {
                tower = turned(tower, firstCloser(tower));
            }
            return firstCloser(tower);
        }

        int rowsToOrder() {
            measure();
            if (toOrder[start] == NONE) {
                return 0;
            }
            Arrays.fill(marks, 0);
            marks[start] = 1;
            line[0] = start;
            int tail = 1;
            int sum = 0;
            for (int next = 0; next < size && next < tail; next++) {
                int tower = line[next];
                if (toOrder[tower] == 0) {
                    sum = Math.min(MOST_ROWS, sum + marks[tower]);
                }
                for (int k = 1; k <= floors; k++) {
                    if (isCloser(tower, k)) {
                        int other = turned(tower, k);
                        if (marks[other] == 0 && tail < size) {
                            line[tail] = other;
                            tail++;
                        }
                        marks[other] = Math.min(MOST_ROWS, marks[other] + marks[tower]);
                    }
                }
            }
            return sum;
        }

        int worstTowers(int what) {
            measure();
            int most = 0;
            int soBad = 0;
            int all = 0;
            for (int tower = 0; tower < size; tower++) {
                int turns = toOrder[tower];
                if (turns > most) {
                    most = turns;
                    soBad = 0;
                }
                soBad += bit(turns == most);
                all += bit(turns != NONE);
            }
            if (what == 0) {
                return most;
            }
            return what == 1 ? soBad : all;
        }

        int towersReached() {
            nearest(AIM_NOTHING, 0);
            return visited;
        }

        int turnsToTop(int rank) {
            return nearest(AIM_TOP, indexOfRank(rank));
        }

        int turnsToNumber(int told) {
            if (told < 0) {
                return NONE;
            }
            int rest = told;
            int met = 0;
            for (int i = FLOORS - 1; i >= 0; i--) {
                digits[i] = i;
                if (i < floors) {
                    digits[i] = indexOfRank(rest % 10);
                    rest = rest / 10;
                    met |= digits[i] == NONE ? 0 : 1 << digits[i];
                }
            }
            // All met: as many digits as ranks, so none came twice and none was strange.
            if (rest != 0 || met != (1 << floors) - 1) {
                return NONE;
            }
            return nearest(AIM_ORDER, numberOfOrder());
        }

        /** Towers wait in buckets by what was paid; as a turn pays 99 at most, no bucket ever holds two sums. */
        int leastPaid(Judge judge, int year) {
            askCases(judge, year, PAYS);
            Arrays.fill(marks, FAR);
            Arrays.fill(buckets, NONE);
            marks[start] = 0;
            putInBucket(start);
            int waiting = 1;
            for (int paid = 0; paid <= DEAREST * size && waiting > 0; paid++) {
                int bucket = paid % BUCKETS;
                for (int i = 0; i < size && buckets[bucket] != NONE; i++) {
                    int tower = buckets[bucket];
                    takeFromBucket(tower);
                    if (isOrdered(tower)) {
                        return paid;
                    }
                    waiting += offerTurns(tower) - 1;
                }
            }
            return NONE;
        }

        /** How many towers wait that did not ahead of it. */
        private int offerTurns(int tower) {
            int more = 0;
            for (int k = 1; k <= floors; k++) {
                int other = turned(tower, k);
                int turnCase = caseOf(tower, k);
                int paid = marks[tower] + pays[turnCase];
                if (barred[turnCase] == 0 && paid < marks[other]) {
                    if (marks[other] == FAR) {
                        more++;
                    } else {
                        takeFromBucket(other);
                    }
                    marks[other] = paid;
                    putInBucket(other);
                }
            }
            return more;
        }

        private void putInBucket(int tower) {
            int bucket = marks[tower] % BUCKETS;
            line[tower] = buckets[bucket];
            links[tower] = NONE;
            if (line[tower] != NONE) {
                links[line[tower]] = tower;
            }
            buckets[bucket] = tower;
        }

        private void takeFromBucket(int tower) {
            if (links[tower] == NONE) {
                buckets[marks[tower] % BUCKETS] = line[tower];
            } else {
                line[links[tower]] = line[tower];
            }
            if (line[tower] != NONE) {
                links[line[tower]] = links[tower];
            }
        }

        /** The fewest turns from the start to a tower that fits; NONE, and all that can be come to visited, without. */
        private int nearest(int aim, int value) {
            Arrays.fill(marks, NONE);
            marks[start] = 0;
            line[0] = start;
            visited = 1;
            for (int next = 0; next < size && next < visited; next++) {
                int tower = line[next];
                if (fits(tower, aim, value)) {
                    return marks[tower];
                }
                for (int k = 1; k <= floors; k++) {
                    int other = turned(tower, k);
                    if (marks[other] == NONE && barred[caseOf(tower, k)] == 0 && visited < size) {
                        marks[other] = marks[tower] + 1;
                        line[visited] = other;
                        visited++;
                    }
                }
            }
            return NONE;
        }

        private boolean fits(int tower, int aim, int value) {
            int order = tower >> floors;
            if (aim == AIM_ORDER) {
                return order == value;
            }
            return aim == AIM_TOP && (orders[order] & 7) == value;
        }

        /** The fewest turns of each tower, from the ordered ones backwards; kept while floors, heads and bars stay. */
        private void measure() {
            if (measuredFloors == floors && measuredHeads == headsMatter && sameBars()) {
                return;
            }
            Arrays.fill(toOrder, NONE);
            int tail = 0;
            for (int tower = 0; tower < size && isOrdered(tower); tower++) {
                toOrder[tower] = 0;
                line[tail] = tower;
                tail++;
            }
            for (int next = 0; next < size && next < tail; next++) {
                int tower = line[next];
                for (int k = 1; k <= floors; k++) {
                    // A turn undoes itself, so this is the tower that the same turn brings here.
                    int other = turned(tower, k);
                    if (toOrder[other] == NONE && barred[caseOf(other, k)] == 0 && tail < size) {
                        toOrder[other] = toOrder[tower] + 1;
                        line[tail] = other;
                        tail++;
                    }
                }
            }
            measuredFloors = floors;
            measuredHeads = headsMatter;
            System.arraycopy(barred, 0, measuredBarred, 0, CASES);
        }

        private boolean sameBars() {
            for (int i = 0; i < CASES; i++) {
                if (barred[i] != measuredBarred[i]) {
                    return false;
                }
            }
            return true;
        }

        private int firstCloser(int tower) {
            for (int k = 1; k <= floors; k++) {
                if (isCloser(tower, k)) {
                    return k;
                }
            }
            return NONE;
        }

        private boolean isCloser(int tower, int k) {
            return toOrder[turned(tower, k)] == toOrder[tower] - 1
                && toOrder[tower] > 0
                && barred[caseOf(tower, k)] == 0;
        }

        private boolean isOrdered(int tower) {
            return headsMatter == 1 ? tower == 0 : tower >> floors == 0;
        }

        private int turned(int tower, int k) {
            if (k < 1 || k > floors) {
                return tower;
            }
            int heads = tower & (1 << floors) - 1;
            int order = turnedOrders[(tower >> floors) * FLOORS + k - 1];
            int other = order << floors | turnedHeads[heads * FLOORS + k - 1];
            // Every tower that is worked on is the start, is counted up to size, or came from here.
            return other < size ? other : tower;
        }

        /** All that a law can be told of a turn, but what is the same for all towers, as one number. */
        private int caseOf(int tower, int k) {
            int order = orders[tower >> floors];
            int below = k < floors ? order >> 3 * k & 7 : BELOW_NONE;
            return caseNumber(k, order & 7, below, tower & 1);
        }

        private static int caseNumber(int k, int top, int below, int head) {
            return (((k - 1) * FLOORS + top) * (FLOORS + 1) + below) * 2 + head;
        }

        private void askCases(Judge judge, int year, int kind) {
            int[] answers = kind == BARS ? barred : pays;
            Arrays.fill(answers, 0);
            judge.setCommon(floors, year);
            for (int k = 1; k <= floors; k++) {
                for (int top = 0; top < floors; top++) {
                    int first = k < floors ? 0 : BELOW_NONE;
                    int last = k < floors ? floors - 1 : BELOW_NONE;
                    for (int below = first; below <= last; below++) {
                        int next = below == BELOW_NONE ? NONE : ranks[below];
                        for (int head = 0; head < 2; head++) {
                            judge.setGrip(k, ranks[top], next, head);
                            int answer = kind == BARS ? bit(judge.anyHolds(BARS)) : judge.pay();
                            answers[caseNumber(k, top, below, head)] = answer;
                        }
                    }
                }
            }
        }

        private int indexOfRank(int rank) {
            for (int i = 0; i < floors; i++) {
                if (ranks[i] == rank) {
                    return i;
                }
            }
            return NONE;
        }

        /** The number of the order in digits: of each place, how many above it are greater. */
        private int numberOfOrder() {
            int number = 0;
            for (int i = 0; i < FLOORS; i++) {
                int greater = 0;
                for (int above = 0; above < i; above++) {
                    greater += bit(digits[above] > digits[i]);
                }
                number += greater * FACTORIALS[i];
            }
            return number;
        }

        private void setDigits(int number) {
            for (int i = 0; i < FLOORS; i++) {
                int digit = i - number / FACTORIALS[i] % (i + 1);
                for (int above = 0; above < i; above++) {
                    digits[above] += bit(digits[above] >= digit);
                }
                digits[i] = digit;
            }
        }

        private void makeRoom() {
            toOrder = new int[size];
            marks = new int[size];
            line = new int[size];
            links = new int[size];
            orders = new int[FACTORIALS[floors]];
            turnedOrders = new int[FACTORIALS[floors] * FLOORS];
            turnedHeads = new int[FLOORS << floors];
            measuredFloors = NONE;
            for (int order = 0; order < orders.length; order++) {
                listOrder(order);
            }
            for (int heads = 0; heads < 1 << floors; heads++) {
                for (int k = 1; k <= floors; k++) {
                    turnedHeads[heads * FLOORS + k - 1] = headsTurned(heads, k);
                }
            }
        }

        private void listOrder(int order) {
            setDigits(order);
            for (int i = 0; i < FLOORS; i++) {
                orders[order] |= digits[i] << 3 * i;
            }
            for (int k = 1; k <= floors; k++) {
                setDigits(order);
                for (int low = 0, high = k - 1; low < high; low++, high--) {
                    int keptDigit = digits[low];
                    digits[low] = digits[high];
                    digits[high] = keptDigit;
                }
                turnedOrders[order * FLOORS + k - 1] = numberOfOrder();
            }
        }

        private static int headsTurned(int heads, int k) {
            int gripped = 0;
            for (int i = 0; i < k; i++) {
                gripped |= (1 - (heads >> i & 1)) << k - 1 - i;
            }
            return heads >> k << k | gripped;
        }
    }
}
