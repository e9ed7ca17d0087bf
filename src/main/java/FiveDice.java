import java.util.Arrays;

/** A sheet of rows that are filled by dice: what it is worth, exactly, and a game played on it. */
public final class FiveDice {
    public static final int NONE = -1, UNKNOWN = -2, OUTSIDE = -3, NOT = -4, LARGE = -5, FULL = -6;

    private static final int MOST_DICE = 5;
    private static final int MOST_SIDES = 6;
    private static final int MOST_THROWS = 3;
    private static final int MOST_ROWS = 8;
    private static final int MOST_KIND = 5;
    private static final int MOST_N = 6;
    private static final int MOST_P = 30;
    private static final int MOST_ASKED = 500;
    private static final int MOST_FIGURES = 10;
    private static final long MOST_UNIT = 1000000000000000L;

    /** All heaps of 0 to 5 dice of 6 sides; 252 of them are of 5 dice. */
    private static final int MOST_HEAPS = 462;

    /** Rows times whole heaps: 3 times 252 is the most that a game has which is not LARGE. */
    private static final int MOST_CELLS = 756;

    private final Tally tally = new Tally();
    private final Row[] rows = new Row[MOST_ROWS];
    private final Game game = new Game();
    private final Worths worths = new Worths(game);
    private final Chances chances = new Chances(game);

    private int diceNow = MOST_DICE;
    private int sidesNow = MOST_SIDES;
    private int throwsNow = MOST_THROWS;
    private int rowCount = 0;

    private boolean begun = false;
    private int sheet = 0;
    private int sum = 0;
    private long luckSoFar = 0;
    private long slipSoFar = 0;

    /** From a turn's first throw until its row is filled. */
    private boolean inTurn = false;
    /** The heap, or what is held of it while some dice are to be thrown. */
    private int heapNow = 0;
    private int toThrow = 0;
    private int throwsLeft = 0;

    public FiveDice() {
        for (int i = 0; i < MOST_ROWS; i++) {
            rows[i] = new Row();
        }
    }

    // ---- the game

    public int dice(int d, int s, int t) {
        if (d < 1 || d > MOST_DICE || s < 2 || s > MOST_SIDES || t < 1 || t > MOST_THROWS) {
            return OUTSIDE;
        }
        if (begun) {
            return NOT;
        }
        diceNow = d;
        sidesNow = s;
        throwsNow = t;
        return 1;
    }

    public int row(int kind, int n, int p) {
        if (kind < 0 || kind > MOST_KIND || n < 1 || n > MOST_N || p < 0 || p > MOST_P) {
            return OUTSIDE;
        }
        if (begun) {
            return NOT;
        }
        if (rowCount >= MOST_ROWS) {
            return FULL;
        }
        rows[rowCount].become(kind, n, p);
        rowCount++;
        return rowCount - 1;
    }

    public int begin() {
        if (begun || rowCount == 0) {
            return NOT;
        }
        if (isLarge()) {
            return LARGE;
        }
        game.prepare(diceNow, sidesNow, throwsNow, rowCount);
        game.writePoints(rows, tally);
        worths.reckonAll();
        chances.forget();
        begun = true;
        comeToTurn();
        return 1;
    }

    public int end() {
        begun = false;
        rowCount = 0;
        sheet = 0;
        sum = 0;
        luckSoFar = 0;
        slipSoFar = 0;
        inTurn = false;
        heapNow = 0;
        toThrow = 0;
        throwsLeft = 0;
        return 1;
    }

    // ---- a turn

    public int fall(int heap) {
        if (toThrow == 0) {
            return NOT;
        }
        int whole = game.heaps.joined(heapNow, heap, toThrow);
        if (whole == NONE) {
            return OUTSIDE;
        }
        return comeToHeap(whole);
    }

    public int draw(int z) {
        if (toThrow == 0) {
            return NOT;
        }
        int whole = heapNow;
        int drawn = z;
        for (int i = 0; i < toThrow; i++) {
            drawn = (drawn * 1103515245 + 12345) & 0x7fffffff;
            whole = game.heaps.withDie(whole, sideOf(drawn, sidesNow));
        }
        return comeToHeap(whole);
    }

    public int hold(int heap) {
        if (!mayHold()) {
            return NOT;
        }
        int held = game.heaps.partOf(heapNow, heap);
        if (held == NONE) {
            return OUTSIDE;
        }
        long ahead = stand();
        if (held == heapNow) {
            throwsLeft--;
        } else {
            heapNow = held;
            toThrow = diceNow - at(game.heaps.size, held);
        }
        slipSoFar += ahead - stand();
        return toThrow;
    }

    public int fill(int row) {
        if (!isRow(row)) {
            return UNKNOWN;
        }
        if (!hasHeap() || isFilled(row)) {
            return NOT;
        }
        long ahead = stand();
        int points = game.pointsAt(row, heapNow);
        rows[row].filledWith = points;
        sum += points;
        sheet |= 1 << row;
        comeToTurn();
        slipSoFar += ahead - stand();
        return points;
    }

    // ---- what it is worth

    public long unit() {
        return begun ? at(game.units, unitPower()) : NOT;
    }

    public long worth() {
        return begun ? worthHere() : NOT;
    }

    public long worthOf(int heap) {
        if (!mayHold()) {
            return NOT;
        }
        int held = game.heaps.partOf(heapNow, heap);
        return held == NONE ? OUTSIDE : worths.turn.valueOfHold(held, throwsLeft);
    }

    public int bestHold() {
        if (!mayHold()) {
            return NOT;
        }
        return at(game.heaps.told, worths.turn.bestHoldOf(heapNow, throwsLeft));
    }

    public int bestRow() {
        return hasHeap() ? worths.bestRowFor(sheet, heapNow) : NOT;
    }

    public long chance(int x) {
        if (x < 0 || x > MOST_ASKED) {
            return OUTSIDE;
        }
        if (!begun) {
            return NOT;
        }
        int need = x - sum;
        if (!inTurn) {
            return chances.beforeTurn(sheet, need);
        }
        Turn turn = chances.inTurn(sheet, need, throwsLeft);
        return valueIn(turn);
    }

    public long luck() {
        return luckSoFar;
    }

    public long slip() {
        return slipSoFar;
    }

    // ---- told

    public int points(int row, int heap) {
        if (!isRow(row)) {
            return UNKNOWN;
        }
        return tally.read(heap, diceNow, sidesNow) ? rows[row].pointsOf(tally) : OUTSIDE;
    }

    public int ways(int heap) {
        return tally.read(heap, diceNow, sidesNow) ? tally.orders() : OUTSIDE;
    }

    public int filled(int row) {
        if (!isRow(row)) {
            return UNKNOWN;
        }
        return isFilled(row) ? rows[row].filledWith : NONE;
    }

    public int count(int what) {
        switch (what) {
            case 0: return diceNow;
            case 1: return sidesNow;
            case 2: return throwsNow;
            case 3: return rowCount;
            case 4: return Integer.bitCount(sheet);
            case 5: return sum;
            case 6: return at(game.heaps.told, heapNow);
            case 7: return throwsLeft;
            case 8: return toThrow;
            case 9: return begun ? 1 : 0;
            default: return OUTSIDE;
        }
    }

    // ---- where the game is

    private boolean isRow(int row) {
        return row >= 0 && row < rowCount;
    }

    private boolean isFilled(int row) {
        return (sheet >> row & 1) != 0;
    }

    private boolean hasHeap() {
        return inTurn && toThrow == 0;
    }

    private boolean mayHold() {
        return hasHeap() && throwsLeft > 0;
    }

    private boolean isLarge() {
        long base = 1;
        for (int i = 0; i < diceNow; i++) {
            base *= sidesNow;
        }
        long unit = 1;
        for (int i = 0; i < throwsNow * rowCount; i++) {
            unit *= base;
            // Looked at on the way: the next step could wrap around.
            if (unit > MOST_UNIT) {
                return true;
            }
        }
        return false;
    }

    private void comeToTurn() {
        boolean over = game.freeRows(sheet) == 0;
        inTurn = false;
        heapNow = 0;
        toThrow = over ? 0 : diceNow;
        throwsLeft = over ? 0 : throwsNow;
        if (!over) {
            worths.lookAt(sheet);
        }
    }

    private int comeToHeap(int whole) {
        long ahead = stand();
        inTurn = true;
        heapNow = whole;
        toThrow = 0;
        throwsLeft--;
        luckSoFar += stand() - ahead;
        return at(game.heaps.told, whole);
    }

    /** THE UNIT here is this power of what one throw of all dice has ways. */
    private int unitPower() {
        int free = game.freeRows(sheet);
        return inTurn ? throwsLeft + throwsNow * (free - 1) : throwsNow * free;
    }

    private long worthHere() {
        return inTurn ? valueIn(worths.turn) : at(worths.before, sheet);
    }

    private long valueIn(Turn turn) {
        return toThrow > 0 ? turn.valueOfHold(heapNow, throwsLeft) : turn.valueOfHeap(heapNow, throwsLeft);
    }

    private long stand() {
        int whole = throwsNow * rowCount;
        return sum * at(game.units, whole) + worthHere() * at(game.units, whole - unitPower());
    }

    private static int sideOf(int drawn, int sides) {
        return sides < 1 ? 1 : 1 + (drawn >> 12) % sides;
    }

    /** Many indexes are kept right far from where they are used, so they are looked at once more there. */
    private static int at(int[] numbers, int index) {
        return index >= 0 && index < numbers.length ? numbers[index] : 0;
    }

    private static long at(long[] numbers, int index) {
        return index >= 0 && index < numbers.length ? numbers[index] : 0;
    }

    /** How many dice show each side. */
    private static final class Tally {
        private static final int[] FACTORIAL = {1, 1, 2, 6, 24, 120};

        private final int[] shown = new int[MOST_SIDES + 1];

        /** Whether the number has just so many figures, all of them sides. */
        boolean read(int number, int dice, int sides) {
            Arrays.fill(shown, 0);
            int rest = number;
            for (int i = 0; i < dice; i++) {
                int side = rest % 10;
                if (side < 1 || side > sides) {
                    return false;
                }
                shown[side]++;
                rest /= 10;
            }
            return rest == 0;
        }

        int showing(int side) {
            return side >= 1 && side <= MOST_SIDES ? shown[side] : 0;
        }

        int total() {
            int total = 0;
            for (int side = 1; side <= MOST_SIDES; side++) {
                total += side * shown[side];
            }
            return total;
        }

        int mostAlike() {
            int most = 0;
            for (int side = 1; side <= MOST_SIDES; side++) {
                most = Math.max(most, shown[side]);
            }
            return most;
        }

        int longestRun() {
            int longest = 0;
            int run = 0;
            for (int side = 1; side <= MOST_SIDES; side++) {
                run = shown[side] > 0 ? run + 1 : 0;
                longest = Math.max(longest, run);
            }
            return longest;
        }

        int sidesShownBy(int dice) {
            int sides = 0;
            for (int side = 1; side <= MOST_SIDES; side++) {
                if (shown[side] >= dice) {
                    sides++;
                }
            }
            return sides;
        }

        int orders() {
            int dice = 0;
            int same = 1;
            for (int side = 1; side <= MOST_SIDES; side++) {
                dice += shown[side];
                same *= at(FACTORIAL, shown[side]);
            }
            return same == 0 ? 0 : at(FACTORIAL, dice) / same;
        }
    }

    private static final class Row {
        private int kind = 0;
        private int n = 1;
        private int p = 0;
        private int filledWith = 0;

        void become(int newKind, int newN, int newP) {
            kind = newKind;
            n = newN;
            p = newP;
        }

        int pointsOf(Tally heap) {
            switch (kind) {
                case 0: return n * heap.showing(n);
                case 1: return heap.mostAlike() >= n ? heap.total() : 0;
                case 2: return heap.longestRun() >= n ? p : 0;
                case 3: return heap.sidesShownBy(2) >= n ? p : 0;
                case 4: return heap.sidesShownBy(1) == n ? p : 0;
                default: return heap.total() + p;
            }
        }
    }

    /**
     * All heaps of 0 to D dice, by number of dice and then as they are told: so the first of
     * several that are worth the same is the one that the document asks for.
     */
    private static final class Heaps {
        private final int[] told = new int[MOST_HEAPS];
        private final int[] size = new int[MOST_HEAPS];
        private final int[] withoutLargest = new int[MOST_HEAPS];
        private final int[] next = new int[MOST_HEAPS * MOST_SIDES];
        private int dice = 0;
        private int sides = 0;
        private int count = 1;
        private int firstWhole = 0;

        void build(int newDice, int newSides) {
            if (dice == newDice && sides == newSides) {
                return;
            }
            dice = newDice;
            sides = newSides;
            count = 1;
            firstWhole = 0;
            for (int i = 0; i < dice; i++) {
                int behind = count;
                addLargestDie(firstWhole, behind);
                addSmallerDie(firstWhole, behind);
                firstWhole = behind;
            }
        }

        private void addLargestDie(int from, int to) {
            for (int heap = from; heap < to; heap++) {
                for (int side = Math.max(1, told[heap] % 10); side <= sides; side++) {
                    if (count >= MOST_HEAPS) {
                        return;
                    }
                    told[count] = told[heap] * 10 + side;
                    size[count] = size[heap] + 1;
                    withoutLargest[count] = heap;
                    next[heap * MOST_SIDES + side - 1] = count;
                    count++;
                }
            }
        }

        /** The die goes ahead of the largest, where heaps with it are known already. */
        private void addSmallerDie(int from, int to) {
            for (int heap = from; heap < to; heap++) {
                int largest = told[heap] % 10;
                for (int side = 1; side < largest; side++) {
                    int ahead = withDie(withoutLargest[heap], side);
                    next[heap * MOST_SIDES + side - 1] = withDie(ahead, largest);
                }
            }
        }

        int wholeCount() {
            return count - firstWhole;
        }

        /** A heap and one die more; a heap that is whole stays as it is. */
        int withDie(int heap, int side) {
            if (heap < 0 || heap >= count || size[heap] >= dice || side < 1 || side > sides) {
                return heap;
            }
            return next[heap * MOST_SIDES + side - 1];
        }

        /** A heap and dice that a number tells; NONE if it is not of so many figures, or one is no side. */
        int joined(int heap, int number, int figures) {
            int whole = heap;
            int rest = number;
            for (int i = 0; i < figures; i++) {
                int side = rest % 10;
                if (side < 1 || side > sides || at(size, whole) >= dice) {
                    return NONE;
                }
                whole = withDie(whole, side);
                rest /= 10;
            }
            return rest == 0 ? whole : NONE;
        }

        /** The heap that a number tells, if it is part of another; else NONE. */
        int partOf(int heap, int number) {
            int part = joined(0, number, figuresOf(number));
            return part != NONE && holdsAll(heap, part) ? part : NONE;
        }

        private static int figuresOf(int number) {
            int figures = 0;
            int rest = number;
            for (int i = 0; i < MOST_FIGURES && rest != 0; i++) {
                rest /= 10;
                figures++;
            }
            return figures;
        }

        /** As figures rise in both, each of the part is found behind the one before it. */
        boolean holdsAll(int heap, int part) {
            int sought = at(told, part);
            int rest = at(told, heap);
            for (int i = 0; i < MOST_DICE && sought != 0; i++) {
                if (rest % 10 == sought % 10) {
                    sought /= 10;
                }
                rest /= 10;
            }
            return sought == 0;
        }
    }

    /** What stays the same from the beginning of a game to its end. */
    private static final class Game {
        private final Heaps heaps = new Heaps();
        private final int[] points = new int[MOST_CELLS];
        private final long[] units = new long[MOST_THROWS * MOST_ROWS + 1];
        private final long[] powersOfSides = new long[MOST_DICE + 1];
        private int throwsATurn = 1;
        private int rowCount = 0;

        void prepare(int dice, int sides, int throwsOfGame, int rowsOfGame) {
            heaps.build(dice, sides);
            throwsATurn = Math.max(1, Math.min(throwsOfGame, MOST_THROWS));
            rowCount = Math.min(rowsOfGame, MOST_ROWS);
            powersOfSides[0] = 1;
            for (int i = 1; i <= dice && i <= MOST_DICE; i++) {
                powersOfSides[i] = powersOfSides[i - 1] * sides;
            }
            units[0] = 1;
            for (int i = 1; i <= throwsATurn * rowCount; i++) {
                units[i] = units[i - 1] * at(powersOfSides, dice);
            }
        }

        void writePoints(Row[] rows, Tally tally) {
            int whole = heaps.wholeCount();
            for (int i = 0; i < whole; i++) {
                tally.read(at(heaps.told, heaps.firstWhole + i), heaps.dice, heaps.sides);
                for (int row = 0; row < rowCount && row * whole + i < MOST_CELLS; row++) {
                    points[row * whole + i] = rows[row].pointsOf(tally);
                }
            }
        }

        int pointsAt(int row, int heap) {
            return at(points, row * heaps.wholeCount() + heap - heaps.firstWhole);
        }

        int freeRows(int sheet) {
            return rowCount - Integer.bitCount(sheet);
        }

        int fullSheet() {
            return (1 << rowCount) - 1;
        }

        boolean isFree(int sheet, int row) {
            return (sheet >> row & 1) == 0;
        }

        long unitBefore(int sheet) {
            return at(units, throwsATurn * freeRows(sheet));
        }
    }

    /** The greatest values within one turn, by throws left; of what is added, or of a chance. */
    private static final class Turn {
        private final Game game;
        private final long[][] ofHeap = new long[MOST_THROWS][MOST_HEAPS];
        /** By throws left less one, as none is held when none is left. */
        private final long[][] ofHold = new long[MOST_THROWS][MOST_HEAPS];

        Turn(Game game) {
            this.game = game;
        }

        /** Whole heaps with no throws left; the rest of the turn is reckoned from them. */
        long[] ground() {
            return ofHeap[0];
        }

        long valueOfHeap(int heap, int throwsLeft) {
            return throwsLeft >= 0 && throwsLeft < MOST_THROWS ? at(ofHeap[throwsLeft], heap) : 0;
        }

        long valueOfHold(int hold, int throwsLeft) {
            return throwsLeft >= 1 && throwsLeft <= MOST_THROWS ? at(ofHold[throwsLeft - 1], hold) : 0;
        }

        int bestHoldOf(int heap, int throwsLeft) {
            long best = valueOfHeap(heap, throwsLeft);
            for (int hold = 0; hold < heap; hold++) {
                if (valueOfHold(hold, throwsLeft) == best && game.heaps.holdsAll(heap, hold)) {
                    return hold;
                }
            }
            return heap;
        }

        /** From the ground up to so many throws left. */
        void climb(int throwsLeft) {
            for (int k = 1; k <= throwsLeft && k < MOST_THROWS; k++) {
                throwOthers(ofHeap[k - 1], ofHold[k - 1]);
                bringToUnit(ofHold[k - 1]);
                chooseHolds(ofHold[k - 1], ofHeap[k]);
            }
        }

        long valueBefore() {
            int last = game.throwsATurn - 1;
            if (last < 0 || last >= MOST_THROWS) {
                return 0;
            }
            climb(last);
            throwOthers(ofHeap[last], ofHold[last]);
            return ofHold[last][0];
        }

        /** Adds up over all ways of the dice that are not held, one die at a time. */
        private void throwOthers(long[] behind, long[] sums) {
            Heaps heaps = game.heaps;
            System.arraycopy(behind, heaps.firstWhole, sums, heaps.firstWhole, heaps.wholeCount());
            for (int hold = heaps.firstWhole - 1; hold >= 0; hold--) {
                int first = hold * MOST_SIDES;
                long total = 0;
                for (int side = 0; side < heaps.sides; side++) {
                    total += at(sums, heaps.next[first + side]);
                }
                sums[hold] = total;
            }
        }

        /** The more dice are held the fewer ways were added up, but all holds have one unit. */
        private void bringToUnit(long[] sums) {
            Heaps heaps = game.heaps;
            for (int hold = 0; hold < heaps.count; hold++) {
                sums[hold] *= at(game.powersOfSides, heaps.size[hold]);
            }
        }

        /** A heap's best hold is itself, or a best hold of the heap with a die less. */
        private void chooseHolds(long[] holds, long[] best) {
            Heaps heaps = game.heaps;
            System.arraycopy(holds, 0, best, 0, heaps.count);
            for (int part = 0; part < heaps.firstWhole; part++) {
                int first = part * MOST_SIDES;
                for (int side = 0; side < heaps.sides; side++) {
                    int larger = heaps.next[first + side];
                    if (larger >= 0 && larger < best.length && best[larger] < best[part]) {
                        best[larger] = best[part];
                    }
                }
            }
        }
    }

    /** What is still added on the mean, and the turn of the sheet that was looked at last. */
    private static final class Worths {
        private final Game game;
        private final Turn turn;
        private final long[] before = new long[1 << MOST_ROWS];

        Worths(Game game) {
            this.game = game;
            this.turn = new Turn(game);
        }

        void reckonAll() {
            int full = game.fullSheet();
            before[full] = 0;
            for (int sheet = full - 1; sheet >= 0; sheet--) {
                layGround(sheet);
                before[sheet] = turn.valueBefore();
            }
        }

        void lookAt(int sheet) {
            layGround(sheet);
            turn.climb(game.throwsATurn - 1);
        }

        int bestRowFor(int sheet, int heap) {
            int best = NONE;
            long bestWorth = -1;
            for (int row = 0; row < game.rowCount; row++) {
                if (game.isFree(sheet, row)) {
                    int behind = sheet | 1 << row;
                    long worth = game.pointsAt(row, heap) * game.unitBefore(behind) + at(before, behind);
                    if (worth > bestWorth) {
                        best = row;
                        bestWorth = worth;
                    }
                }
            }
            return best;
        }

        private void layGround(int sheet) {
            int whole = game.heaps.wholeCount();
            int first = game.heaps.firstWhole;
            long[] ground = turn.ground();
            Arrays.fill(ground, first, first + whole, 0);
            for (int row = 0; row < game.rowCount; row++) {
                if (game.isFree(sheet, row)) {
                    int behind = sheet | 1 << row;
                    long unit = game.unitBefore(behind);
                    long rest = at(before, behind);
                    for (int i = 0; i < whole; i++) {
                        long worth = at(game.points, row * whole + i) * unit + rest;
                        ground[first + i] = Math.max(ground[first + i], worth);
                    }
                }
            }
        }
    }

    /** Chances by sheet and by what is still needed; reckoned when asked for, and kept for the game. */
    private static final class Chances {
        private final Game game;
        private final Turn turn;
        /** The least and the most that a sheet can still add: only needs between them are kept. */
        private final int[] least = new int[1 << MOST_ROWS];
        private final int[] most = new int[1 << MOST_ROWS];
        private final int[] start = new int[1 << MOST_ROWS];
        /** One part for each depth, as a sheet's ground is half laid while the next is reckoned. */
        private final long[] grounds = new long[MOST_CELLS];
        private long[] kept = new long[0];
        private boolean ready = false;

        Chances(Game game) {
            this.game = game;
            this.turn = new Turn(game);
        }

        void forget() {
            ready = false;
        }

        long beforeTurn(int sheet, int need) {
            makeReady();
            return ofSheet(sheet, need, 0);
        }

        /** The turn with the chances of all heaps and holds, up to so many throws left. */
        Turn inTurn(int sheet, int need, int throwsLeft) {
            makeReady();
            layGround(sheet, need, 0);
            turn.climb(throwsLeft);
            return turn;
        }

        private void makeReady() {
            if (ready) {
                return;
            }
            int cells = measureSheets();
            if (kept.length < cells) {
                // At least twice as long, so that many games in a row take little room.
                kept = new long[Math.max(cells, 2 * kept.length)];
            }
            Arrays.fill(kept, 0, cells, NONE);
            ready = true;
        }

        private int measureSheets() {
            int full = game.fullSheet();
            least[full] = 0;
            most[full] = 0;
            start[full] = 0;
            int cells = 0;
            for (int row = 0; row < game.rowCount; row++) {
                int bit = 1 << row;
                int rowLeast = leastOfRow(row);
                int rowMost = mostOfRow(row);
                // All rows behind this one are filled in these: a part of them was measured before.
                for (int later = 0; later < bit; later++) {
                    int behind = full ^ later;
                    int sheet = behind ^ bit;
                    least[sheet] = least[behind] + rowLeast;
                    most[sheet] = most[behind] + rowMost;
                    start[sheet] = cells;
                    cells += most[sheet] - least[sheet];
                }
            }
            return cells;
        }

        private int leastOfRow(int row) {
            int whole = game.heaps.wholeCount();
            int result = at(game.points, row * whole);
            for (int i = 1; i < whole; i++) {
                result = Math.min(result, at(game.points, row * whole + i));
            }
            return result;
        }

        private int mostOfRow(int row) {
            int whole = game.heaps.wholeCount();
            int result = 0;
            for (int i = 0; i < whole; i++) {
                result = Math.max(result, at(game.points, row * whole + i));
            }
            return result;
        }

        private long ofSheet(int sheet, int need, int depth) {
            if (need <= at(least, sheet)) {
                return game.unitBefore(sheet);
            }
            int cell = at(start, sheet) + need - at(least, sheet) - 1;
            if (need > at(most, sheet) || depth >= game.rowCount || cell < 0 || cell >= kept.length) {
                return 0;
            }
            if (kept[cell] == NONE) {
                layGround(sheet, need, depth);
                kept[cell] = turn.valueBefore();
            }
            return kept[cell];
        }

        private void layGround(int sheet, int need, int depth) {
            int whole = game.heaps.wholeCount();
            int first = depth * whole;
            if (first + whole > MOST_CELLS) {
                return;
            }
            Arrays.fill(grounds, first, first + whole, 0);
            for (int row = 0; row < game.rowCount; row++) {
                if (game.isFree(sheet, row)) {
                    int behind = sheet | 1 << row;
                    for (int i = 0; i < whole; i++) {
                        long value = ofSheet(behind, need - at(game.points, row * whole + i), depth + 1);
                        grounds[first + i] = Math.max(grounds[first + i], value);
                    }
                }
            }
            System.arraycopy(grounds, first, turn.ground(), game.heaps.firstWhole, whole);
        }
    }
}
