import java.lang.reflect.InvocationTargetException;
import java.lang.reflect.Method;
import java.math.BigInteger;
import java.util.ArrayList;
import java.util.Arrays;
import java.util.Comparator;
import java.util.List;

/**
 * Each boundary that the document names, by a test of its own. A test is a method whose name begins with
 * "promise" and the promise's number; what is due is reckoned by hand, or by plain means that stand here.
 */
public final class FiveDiceEdges {
    private static final int NONE = -1, UNKNOWN = -2, OUTSIDE = -3, NOT = -4, LARGE = -5, FULL = -6;
    private static final int LEAST = Integer.MIN_VALUE;
    private static final int GREATEST = Integer.MAX_VALUE;

    private static String test = "";
    private static int wrong = 0;

    public static void main(String[] args) throws IllegalAccessException {
        Method[] all = FiveDiceEdges.class.getDeclaredMethods();
        Arrays.sort(all, Comparator.comparing(Method::getName));
        int tests = 0;
        for (Method m : all) {
            if (m.getName().startsWith("promise")) {
                run(m);
                tests++;
            }
        }
        System.out.println(wrong == 0 ? "all edges hold, by " + tests + " tests" : wrong + " answers are not as due");
        if (wrong != 0) System.exit(1);
    }

    private static void run(Method m) throws IllegalAccessException {
        test = m.getName();
        try {
            m.invoke(null);
        } catch (InvocationTargetException e) {
            fault("threw " + e.getCause());
        }
    }

    private static void fault(String what) {
        wrong++;
        System.out.println(test + ": " + what);
    }

    private static void due(String what, long got, long want) {
        if (got != want) fault(what + " answered " + got + ", due is " + want);
    }

    private static void dueCounts(String where, FiveDice x, int... want) {
        for (int i = 0; i < want.length; i++) due(where + ": count(" + i + ")", x.count(i), want[i]);
    }

    private interface Call {
        long on(FiveDice x);
    }

    // ---- where a game can be

    /** A way into each state, with what count(0) to count(9) tell there. */
    private enum Stage {
        NEW(null, x -> 0, 5, 6, 3, 0, 0, 0, 0, 0, 0, 0),
        EIGHT_ROWS(NEW, x -> addRows(x, 8), 5, 6, 3, 8, 0, 0, 0, 0, 0, 0),
        LARGE_REFUSED(EIGHT_ROWS, x -> x.begin(), 5, 6, 3, 8, 0, 0, 0, 0, 0, 0),
        EIGHT_BEGUN(EIGHT_ROWS, x -> x.dice(1, 2, 1) + x.begin(), 1, 2, 1, 8, 0, 0, 0, 1, 1, 1),
        TWO_ROWS(NEW, x -> x.dice(3, 4, 3) + x.row(5, 1, 2) + x.row(1, 2, 0), 3, 4, 3, 2, 0, 0, 0, 0, 0, 0),
        BEFORE_FIRST(TWO_ROWS, x -> x.begin(), 3, 4, 3, 2, 0, 0, 0, 3, 3, 1),
        HEAP(BEFORE_FIRST, x -> x.fall(424), 3, 4, 3, 2, 0, 0, 244, 2, 0, 1),
        NONE_HELD(HEAP, x -> x.hold(0), 3, 4, 3, 2, 0, 0, 0, 2, 3, 1),
        ONE_HELD(HEAP, x -> x.hold(4), 3, 4, 3, 2, 0, 0, 4, 2, 2, 1),
        TWO_HELD(HEAP, x -> x.hold(42), 3, 4, 3, 2, 0, 0, 24, 2, 1, 1),
        ALL_HELD(HEAP, x -> x.hold(442), 3, 4, 3, 2, 0, 0, 244, 1, 0, 1),
        ALL_HELD_TWICE(ALL_HELD, x -> x.hold(244), 3, 4, 3, 2, 0, 0, 244, 0, 0, 1),
        SECOND_THROW(ONE_HELD, x -> x.fall(31), 3, 4, 3, 2, 0, 0, 134, 1, 0, 1),
        LAST_HOLD(SECOND_THROW, x -> x.hold(34), 3, 4, 3, 2, 0, 0, 34, 1, 1, 1),
        LAST_THROW(LAST_HOLD, x -> x.fall(4), 3, 4, 3, 2, 0, 0, 344, 0, 0, 1),
        BEFORE_SECOND(LAST_THROW, x -> x.fill(1), 3, 4, 3, 2, 1, 11, 0, 3, 3, 1),
        SECOND_HEAP(BEFORE_SECOND, x -> x.fall(111), 3, 4, 3, 2, 1, 11, 111, 2, 0, 1),
        ALL_FILLED(SECOND_HEAP, x -> x.fill(0), 3, 4, 3, 2, 2, 16, 0, 0, 0, 1),
        ENDED(ALL_FILLED, x -> x.end(), 3, 4, 3, 0, 0, 0, 0, 0, 0, 0),
        ENDED_IN_TURN(TWO_HELD, x -> x.end(), 3, 4, 3, 0, 0, 0, 0, 0, 0, 0);

        private final Stage from;
        private final Call step;
        private final int[] counts;

        Stage(Stage from, Call step, int... counts) {
            this.from = from;
            this.step = step;
            this.counts = counts;
        }

        FiveDice make() {
            FiveDice x = from == null ? new FiveDice() : from.make();
            step.on(x);
            return x;
        }

        int rows() {
            return counts[3];
        }

        int toThrow() {
            return counts[8];
        }

        boolean begun() {
            return counts[9] == 1;
        }

        boolean hasHeap() {
            return begun() && counts[6] != 0 && counts[8] == 0;
        }

        boolean mayHold() {
            return hasHeap() && counts[7] > 0;
        }
    }

    private static int addRows(FiveDice x, int rows) {
        int last = NONE;
        for (int i = 0; i < rows; i++) last = x.row(5, 1, i);
        return last;
    }

    private static FiveDice game(int d, int s, int t, int... rows) {
        FiveDice x = new FiveDice();
        x.dice(d, s, t);
        for (int i = 0; i + 2 < rows.length; i += 3) x.row(rows[i], rows[i + 1], rows[i + 2]);
        return x;
    }

    private static FiveDice begun(int d, int s, int t, int... rows) {
        FiveDice x = game(d, s, t, rows);
        due("begin", x.begin(), 1);
        return x;
    }

    // ---- a refused call changes nothing

    private static List<Long> look(FiveDice x) {
        List<Long> told = new ArrayList<>();
        for (int i = -1; i <= 10; i++) told.add((long) x.count(i));
        for (int i = -1; i <= 8; i++) told.add((long) x.filled(i));
        told.add(x.luck());
        told.add(x.slip());
        told.add(x.worth());
        told.add(x.unit());
        return told;
    }

    /** What is told on the way from here to an end: two objects that answer the same are in one state. */
    private static List<Long> playOn(FiveDice x) {
        List<Long> told = new ArrayList<>();
        if (x.count(9) == 0) {
            told.add((long) x.row(5, 1, 3));
            told.add((long) x.row(2, 2, 30));
            told.add((long) x.begin());
            if (x.count(9) == 0) told.add((long) (x.dice(1, 2, 1) + x.begin()));
        }
        for (int turn = 0; turn < 9; turn++) {
            told.add((long) x.draw(turn * 777));
            told.add(x.worth());
            told.add(x.worthOf(0));
            told.add((long) x.bestHold());
            told.add(x.chance(15));
            told.add((long) x.fill(x.bestRow()));
            told.add(x.luck());
            told.add(x.slip());
        }
        told.add((long) x.count(5));
        return told;
    }

    private static void dueUnchanged(Stage stage, String what, Call call, long want) {
        FiveDice x = stage.make();
        List<Long> before = look(x);
        due(stage + ": " + what, call.on(x), want);
        List<Long> behind = look(x);
        if (!before.equals(behind)) fault(stage + ": " + what + " changed " + before + " to " + behind);
        if (!playOn(x).equals(playOn(stage.make()))) fault(stage + ": " + what + " changed what comes later");
    }

    private static void eachRefused(Stage stage, String name, int[] numbers, OneNumber call, long want) {
        for (int number : numbers) {
            dueUnchanged(stage, name + "(" + number + ")", x -> call.on(x, number), want);
        }
    }

    private interface OneNumber {
        long on(FiveDice x, int number);
    }

    private static void diceRefused(Stage stage, int[] a, long want) {
        dueUnchanged(stage, "dice" + Arrays.toString(a), x -> x.dice(a[0], a[1], a[2]), want);
    }

    private static void rowRefused(Stage stage, int[] a, long want) {
        dueUnchanged(stage, "row" + Arrays.toString(a), x -> x.row(a[0], a[1], a[2]), want);
    }

    // ---- promise 1: a new object

    private static void promise01ConstantsAreTold() {
        due("NONE", FiveDice.NONE, NONE);
        due("UNKNOWN", FiveDice.UNKNOWN, UNKNOWN);
        due("OUTSIDE", FiveDice.OUTSIDE, OUTSIDE);
        due("NOT", FiveDice.NOT, NOT);
        due("LARGE", FiveDice.LARGE, LARGE);
        due("FULL", FiveDice.FULL, FULL);
    }

    private static void promise01FiveDiceOfSixSidesAndThreeThrows() {
        FiveDice x = new FiveDice();
        dueCounts("new", x, 5, 6, 3);
        due("ways of 5 sixes", x.ways(66666), 1);
        due("ways of 4 dice", x.ways(6666), OUTSIDE);
        due("ways of a 7", x.ways(66667), OUTSIDE);
        x.row(5, 1, 0);
        x.begin();
        due("unit of one row", x.unit(), 470184984576L);
    }

    private static void promise01NoRowsAndNothingBegun() {
        FiveDice x = new FiveDice();
        dueCounts("new", x, 5, 6, 3, 0, 0, 0, 0, 0, 0, 0);
        for (int row = -1; row <= 8; row++) due("filled(" + row + ")", x.filled(row), UNKNOWN);
        due("begin", x.begin(), NOT);
        due("the first row", x.row(0, 1, 0), 0);
    }

    // ---- promise 2: dice

    private static final int[][] NO_DICE = {{0, 4, 2}, {6, 4, 2}, {-1, 4, 2}, {LEAST, 4, 2}, {GREATEST, 4, 2},
        {3, 1, 2}, {3, 7, 2}, {3, 0, 2}, {3, -2, 2}, {3, LEAST, 2}, {3, GREATEST, 2},
        {3, 4, 0}, {3, 4, 4}, {3, 4, -1}, {3, 4, LEAST}, {3, 4, GREATEST}, {0, 1, 0}, {6, 7, 4}};

    private static void promise02EverySizeIsTaken() {
        for (int d = 1; d <= 5; d++) {
            for (int s = 2; s <= 6; s++) {
                for (int t = 1; t <= 3; t++) {
                    FiveDice x = new FiveDice();
                    due("dice(" + d + ", " + s + ", " + t + ")", x.dice(d, s, t), 1);
                    dueCounts("behind dice", x, d, s, t, 0, 0, 0, 0, 0, 0, 0);
                }
            }
        }
    }

    private static void promise02OutsideOnEachSide() {
        for (Stage stage : new Stage[] {Stage.NEW, Stage.TWO_ROWS, Stage.EIGHT_ROWS, Stage.ENDED}) {
            for (int[] numbers : NO_DICE) diceRefused(stage, numbers, OUTSIDE);
        }
    }

    private static void promise02OutsideAheadOfNot() {
        for (Stage stage : Stage.values()) {
            if (stage.begun()) for (int[] numbers : NO_DICE) diceRefused(stage, numbers, OUTSIDE);
        }
    }

    private static void promise02NotWhenItHasBegun() {
        int[][] taken = {{1, 2, 1}, {5, 6, 3}, {3, 4, 3}, {2, 4, 3}, {3, 3, 3}, {3, 4, 2}};
        for (Stage stage : Stage.values()) {
            if (stage.begun()) for (int[] numbers : taken) diceRefused(stage, numbers, NOT);
        }
    }

    private static void promise02TakenWhereNothingHasBegun() {
        for (Stage stage : Stage.values()) {
            if (stage.begun()) continue;
            FiveDice x = stage.make();
            due(stage + ": dice", x.dice(2, 3, 1), 1);
            dueCounts(stage + " and dice", x, 2, 3, 1, stage.rows(), 0, 0, 0, 0, 0, 0);
        }
    }

    private static void promise02FromNowOn() {
        FiveDice x = Stage.TWO_ROWS.make();
        due("points of three dice", x.points(0, 444), 14);
        x.dice(2, 3, 1);
        due("points of three dice, behind", x.points(0, 333), OUTSIDE);
        due("points of a 4, behind", x.points(0, 34), OUTSIDE);
        due("points of two dice, behind", x.points(0, 33), 8);
        due("ways of two dice, behind", x.ways(32), 2);
        x.begin();
        due("unit", x.unit(), 81);
        due("throws", x.count(7), 1);
        due("dice to be thrown", x.count(8), 2);
    }

    // ---- promise 3: row

    private static final int[][] NO_ROW = {{-1, 3, 9}, {6, 3, 9}, {LEAST, 3, 9}, {GREATEST, 3, 9},
        {0, 0, 9}, {0, 7, 9}, {5, 0, 9}, {5, 7, 9}, {1, -1, 9}, {1, LEAST, 9}, {1, GREATEST, 9},
        {0, 3, -1}, {0, 3, 31}, {2, 3, -1}, {2, 3, 31}, {2, 3, LEAST}, {2, 3, GREATEST}, {-1, 0, -1}, {6, 7, 31}};

    private static void promise03EveryKindNAndPIsTaken() {
        FiveDice x = new FiveDice();
        int rows = 0;
        for (int kind = 0; kind <= 5; kind++) {
            for (int n = 1; n <= 6; n++) {
                for (int p = 0; p <= 30; p++) {
                    if (rows == 8) {
                        x = new FiveDice();
                        rows = 0;
                    }
                    due("row(" + kind + ", " + n + ", " + p + ")", x.row(kind, n, p), rows);
                    rows++;
                    due("count(3)", x.count(3), rows);
                }
            }
        }
    }

    private static void promise03OutsideOnEachSide() {
        for (Stage stage : new Stage[] {Stage.NEW, Stage.TWO_ROWS, Stage.ENDED}) {
            for (int[] numbers : NO_ROW) rowRefused(stage, numbers, OUTSIDE);
        }
    }

    private static void promise03OutsideAheadOfNot() {
        for (Stage stage : Stage.values()) {
            if (stage.begun()) for (int[] numbers : NO_ROW) rowRefused(stage, numbers, OUTSIDE);
        }
    }

    private static void promise03OutsideAheadOfFull() {
        for (int[] numbers : NO_ROW) rowRefused(Stage.EIGHT_ROWS, numbers, OUTSIDE);
    }

    private static void promise03NotWhenItHasBegun() {
        for (Stage stage : Stage.values()) {
            if (stage.begun()) {
                rowRefused(stage, new int[] {0, 1, 0}, NOT);
                rowRefused(stage, new int[] {5, 6, 30}, NOT);
            }
        }
    }

    private static void promise03NotAheadOfFull() {
        rowRefused(Stage.EIGHT_BEGUN, new int[] {0, 1, 0}, NOT);
    }

    private static void promise03NinthIsFull() {
        for (Stage stage : new Stage[] {Stage.EIGHT_ROWS, Stage.LARGE_REFUSED}) {
            rowRefused(stage, new int[] {0, 1, 0}, FULL);
            rowRefused(stage, new int[] {5, 6, 30}, FULL);
        }
        FiveDice x = Stage.EIGHT_ROWS.make();
        x.row(0, 1, 0);
        for (int row = 0; row < 8; row++) due("points in row " + row, x.points(row, 66666), 30 + row);
        due("points in row 8", x.points(8, 66666), UNKNOWN);
    }

    private static void promise03NumbersFromZeroOn() {
        FiveDice x = new FiveDice();
        for (int row = 0; row < 8; row++) due("row", x.row(row % 6, 1, 0), row);
        x.end();
        for (int row = 0; row < 8; row++) due("row behind the end", x.row(row % 6, 1, 0), row);
        due("a ninth behind the end", x.row(0, 1, 0), FULL);
    }

    private static void promise03ARefusedOneTakesNoNumber() {
        FiveDice x = new FiveDice();
        x.row(6, 1, 0);
        due("the first", x.row(0, 1, 0), 0);
        x.row(0, 0, 0);
        due("the second", x.row(0, 1, 0), 1);
    }

    // ---- promise 4: begin

    private static int beginOf(int d, int s, int t, int rows) {
        FiveDice x = game(d, s, t);
        addRows(x, rows);
        return x.begin();
    }

    private static void promise04NotWithoutRows() {
        for (Stage stage : new Stage[] {Stage.NEW, Stage.ENDED, Stage.ENDED_IN_TURN}) {
            dueUnchanged(stage, "begin", FiveDice::begin, NOT);
        }
        FiveDice x = Stage.TWO_ROWS.make();
        x.end();
        due("begin with rows that went", x.begin(), NOT);
    }

    private static void promise04NotWhenItHasBegun() {
        for (Stage stage : Stage.values()) {
            if (stage.begun()) dueUnchanged(stage, "begin", FiveDice::begin, NOT);
        }
    }

    private static void promise04LargestThatIsNotLarge() {
        // Of all sizes 5^21 is the greatest unit that is not above 1000000000000000.
        for (int[] size : new int[][] {{1, 5, 3}, {3, 5, 1}}) {
            FiveDice x = game(size[0], size[1], size[2]);
            addRows(x, 7);
            due("begin of 5^21", x.begin(), 1);
            due("unit of 5^21", x.unit(), 476837158203125L);
            due("chance of 0", x.chance(0), 476837158203125L);
        }
        FiveDice sure = game(1, 5, 3);
        for (int i = 0; i < 7; i++) sure.row(2, 1, 30);
        sure.begin();
        due("worth of 210 points for sure", sure.worth(), 210 * 476837158203125L);
    }

    private static void promise04SmallestThatIsLarge() {
        // 2^50 is the least that is above it; with a row or a throw less they begin.
        due("5 dice of 2 sides, 2 throws, 5 rows", beginOf(5, 2, 2, 5), LARGE);
        due("5 dice of 4 sides, 1 throw, 5 rows", beginOf(5, 4, 1, 5), LARGE);
        due("5 dice of 2 sides, 2 throws, 4 rows", beginOf(5, 2, 2, 4), 1);
        due("5 dice of 2 sides, 1 throw, 5 rows", beginOf(5, 2, 1, 5), 1);
        due("5 dice of 4 sides, 1 throw, 4 rows", beginOf(5, 4, 1, 4), 1);
        due("4 dice of 4 sides, 1 throw, 5 rows", beginOf(4, 4, 1, 5), 1);
        due("5 dice of 3 sides, 1 throw, 5 rows", beginOf(5, 3, 1, 5), 1);
    }

    private static void promise04EachSizeIsLargeOrNot() {
        for (int d = 1; d <= 5; d++) {
            for (int s = 2; s <= 6; s++) {
                for (int t = 1; t <= 3; t++) {
                    for (int rows = 1; rows <= 8; rows++) {
                        BigInteger unit = BigInteger.valueOf(s).pow(d * t * rows);
                        int want = unit.compareTo(BigInteger.TEN.pow(15)) > 0 ? LARGE : 1;
                        due("begin of " + d + ", " + s + ", " + t + ", " + rows, beginOf(d, s, t, rows), want);
                    }
                }
            }
        }
    }

    private static void promise04LargeWhereTheUnitWrapsAround() {
        // As longs 2^64 and 2^128 are 0, 2^63 and 3^42 are below 0.
        due("2^63", beginOf(3, 2, 3, 7), LARGE);
        due("2^64", beginOf(4, 4, 1, 8), LARGE);
        due("2^128", beginOf(4, 4, 2, 8), LARGE);
        due("3^42", beginOf(2, 3, 3, 7), LARGE);
        due("6^120", beginOf(5, 6, 3, 8), LARGE);
    }

    private static void promise04LargeChangesNothing() {
        dueUnchanged(Stage.EIGHT_ROWS, "begin", FiveDice::begin, LARGE);
        dueUnchanged(Stage.LARGE_REFUSED, "begin", FiveDice::begin, LARGE);
        FiveDice x = Stage.LARGE_REFUSED.make();
        due("dice", x.dice(3, 4, 1), 1);
        due("begin, not large any more", x.begin(), 1);
    }

    private static void promise04BeforeItsFirstTurn() {
        FiveDice x = Stage.TWO_ROWS.make();
        due("begin", x.begin(), 1);
        dueCounts("begun", x, 3, 4, 3, 2, 0, 0, 0, 3, 3, 1);
        due("luck", x.luck(), 0);
        due("slip", x.slip(), 0);
        due("filled(0)", x.filled(0), NONE);
        due("filled(1)", x.filled(1), NONE);
    }

    private static void promise04OneRowIsEnough() {
        due("one row", beginOf(1, 2, 1, 1), 1);
        due("one row of the most dice", beginOf(5, 6, 3, 1), 1);
    }

    // ---- promise 5: end

    private static FiveDice newOf(Stage stage) {
        return game(stage.counts[0], stage.counts[1], stage.counts[2]);
    }

    private static void promise05EndInEveryState() {
        for (Stage stage : Stage.values()) {
            FiveDice x = stage.make();
            due(stage + ": end", x.end(), 1);
            dueCounts(stage + " and end", x, stage.counts[0], stage.counts[1], stage.counts[2], 0, 0, 0, 0, 0, 0, 0);
            if (!look(x).equals(look(newOf(stage)))) fault(stage + ": the end leaves " + look(x));
            if (!playOn(x).equals(playOn(newOf(stage)))) fault(stage + ": something comes over the end");
        }
    }

    private static void promise05EndTwice() {
        for (Stage stage : Stage.values()) {
            FiveDice x = stage.make();
            x.end();
            due(stage + ": end again", x.end(), 1);
            if (!look(x).equals(look(newOf(stage)))) fault(stage + ": the second end leaves " + look(x));
            if (!playOn(x).equals(playOn(newOf(stage)))) fault(stage + ": something comes over the second end");
        }
    }

    private static void promise05RowsThatGoAreUnknown() {
        for (Stage stage : Stage.values()) {
            FiveDice x = stage.make();
            x.end();
            due(stage + ": filled(0)", x.filled(0), UNKNOWN);
            due(stage + ": points(0)", x.points(0, stage.counts[0] == 5 ? 11111 : 111), UNKNOWN);
            due(stage + ": fill(0)", x.fill(0), UNKNOWN);
        }
    }

    private static void promise05NewRowsAreNotFilled() {
        FiveDice x = Stage.ENDED.make();
        x.row(1, 2, 0);
        x.row(5, 1, 2);
        for (int row = 0; row < 2; row++) due("filled(" + row + ")", x.filled(row), NONE);
        x.begin();
        for (int row = 0; row < 2; row++) due("filled(" + row + "), begun", x.filled(row), NONE);
        dueCounts("begun again", x, 3, 4, 3, 2, 0, 0, 0, 3, 3, 1);
        // Row 0 is another one now: of no two alike.
        x.fall(123);
        due("fill(0)", x.fill(0), 0);
    }

    private static void promise05AnotherGameIsAsOneOfANewObject() {
        // Of each game to the next: other sides, other dice, other throws, fewer rows, more rows, other rows alone.
        int[][] games = {{3, 4, 2, 3}, {3, 2, 2, 3}, {2, 2, 2, 3}, {2, 2, 3, 3}, {2, 2, 3, 1}, {2, 6, 2, 2}, {2, 6, 2, 2},
            {5, 6, 1, 1}};
        FiveDice x = new FiveDice();
        for (int i = 0; i < games.length; i++) {
            x.end();
            List<Long> again = playGame(x, games[i], i);
            List<Long> anew = playGame(new FiveDice(), games[i], i);
            if (!again.equals(anew)) fault("game " + i + " is told as " + again + ", of a new object as " + anew);
        }
    }

    private static List<Long> playGame(FiveDice x, int[] size, int kind) {
        List<Long> told = new ArrayList<>();
        x.dice(size[0], size[1], size[2]);
        for (int i = 0; i < size[3]; i++) x.row((kind + 5 * i) % 6, 1 + i, 30 - 7 * i - kind);
        told.add((long) x.begin());
        for (int sum = 0; sum < 80; sum += 9) told.add(x.chance(sum));
        for (int row = 0; row < size[3]; row++) {
            told.add((long) x.draw(99 * row));
            told.add(x.worth());
            told.add((long) x.bestHold());
            told.add(x.chance(20));
            told.add((long) x.hold(x.count(6) % 10));
            told.add((long) x.draw(row));
            told.add((long) x.fill(row));
            told.add(x.luck());
            told.add(x.slip());
        }
        return told;
    }

    // ---- promise 6: fall

    private static final int[] ANY_NUMBERS = {0, 1, 4, 5, 11, 24, 111, 244, 115, 101, 1111, 11111, 66666, -1, -111, LEAST,
        GREATEST};

    private static void promise06NotAheadOfOutside() {
        for (Stage stage : Stage.values()) {
            if (stage.toThrow() == 0) eachRefused(stage, "fall", ANY_NUMBERS, FiveDice::fall, NOT);
        }
    }

    private static void promise06TooFewOrTooManyFigures() {
        int[] ones = {0, 1, 11, 111, 1111, 11111, 111111, 1111111, 11111111, 111111111, 1111111111};
        for (Stage stage : Stage.values()) {
            for (int figures = 0; figures < ones.length && stage.toThrow() > 0; figures++) {
                int[] number = {ones[figures]};
                if (figures != stage.toThrow()) eachRefused(stage, "fall", number, FiveDice::fall, OUTSIDE);
            }
        }
    }

    private static void promise06FigureZero() {
        eachRefused(Stage.BEFORE_FIRST, "fall", new int[] {0, 110, 101, 100, 10, 1110, 1011}, FiveDice::fall, OUTSIDE);
        eachRefused(Stage.NONE_HELD, "fall", new int[] {0, 110, 101, 100}, FiveDice::fall, OUTSIDE);
        eachRefused(Stage.ONE_HELD, "fall", new int[] {0, 10, 40, 110, 101}, FiveDice::fall, OUTSIDE);
        eachRefused(Stage.TWO_HELD, "fall", new int[] {0, 10}, FiveDice::fall, OUTSIDE);
    }

    private static void promise06FigureAboveS() {
        for (int figure = 5; figure <= 9; figure++) {
            int[] three = {100 * figure + 11, 100 + 10 * figure + 1, 110 + figure};
            int[] two = {10 * figure + 1, 10 + figure};
            eachRefused(Stage.BEFORE_FIRST, "fall", three, FiveDice::fall, OUTSIDE);
            eachRefused(Stage.BEFORE_SECOND, "fall", three, FiveDice::fall, OUTSIDE);
            eachRefused(Stage.NONE_HELD, "fall", three, FiveDice::fall, OUTSIDE);
            eachRefused(Stage.ONE_HELD, "fall", two, FiveDice::fall, OUTSIDE);
            eachRefused(Stage.TWO_HELD, "fall", new int[] {figure}, FiveDice::fall, OUTSIDE);
        }
    }

    private static void promise06NegativeNumbersAndTheEndsOfInt() {
        int[] numbers = {-1, -4, -11, -24, -111, -244, -1111, LEAST, LEAST + 1, GREATEST};
        for (Stage stage : Stage.values()) {
            if (stage.toThrow() > 0) eachRefused(stage, "fall", numbers, FiveDice::fall, OUTSIDE);
        }
    }

    private static void promise06EverySizeHasItsFigures() {
        for (int d = 1; d <= 5; d++) {
            for (int s = 2; s <= 6; s++) {
                int ones = 11111 % (int) Math.pow(10, d);
                String size = d + " dice of " + s + " sides: ";
                due(size + "all 1", begun(d, s, 1, 5, 1, 0).fall(ones), ones);
                due(size + "all S", begun(d, s, 1, 5, 1, 0).fall(s * ones), s * ones);
                FiveDice x = begun(d, s, 1, 5, 1, 0);
                due(size + "one above S", x.fall(s * ones + 1), OUTSIDE);
                due(size + "one below 1", x.fall(ones - 1), OUTSIDE);
                due(size + "a figure more", x.fall(10 * ones + 1), OUTSIDE);
                due(size + "a figure less", x.fall(ones / 10), OUTSIDE);
                due(size + "then as it should", x.fall(ones), ones);
            }
        }
    }

    private static void orders(String ahead, String rest, List<Integer> found) {
        if (rest.isEmpty()) found.add(Integer.parseInt(ahead));
        for (int i = 0; i < rest.length(); i++) {
            orders(ahead + rest.charAt(i), rest.substring(0, i) + rest.substring(i + 1), found);
        }
    }

    private static List<Integer> orders(int number) {
        List<Integer> found = new ArrayList<>();
        orders("", "" + number, found);
        return found;
    }

    private static void promise06FiguresInAnyOrder() {
        for (int heap : new int[] {12345, 11266, 23456}) {
            for (int number : orders(heap)) {
                FiveDice x = begun(5, 6, 1, 5, 1, 0);
                due("fall(" + number + ")", x.fall(number), heap);
                due("count(6)", x.count(6), heap);
            }
        }
    }

    private static void promise06JoinsWhatIsHeld() {
        due("43 to a held 4", Stage.ONE_HELD.make().fall(43), 344);
        due("11 to a held 4", Stage.ONE_HELD.make().fall(11), 114);
        due("3 to a held 24", Stage.TWO_HELD.make().fall(3), 234);
        due("1 to a held 24", Stage.TWO_HELD.make().fall(1), 124);
        due("4 to a held 24", Stage.TWO_HELD.make().fall(4), 244);
        due("321 to none held", Stage.NONE_HELD.make().fall(321), 123);
    }

    private static void promise06EachThrowTakesOne() {
        FiveDice x = Stage.BEFORE_FIRST.make();
        x.fall(111);
        due("throws left", x.count(7), 2);
        x.hold(0);
        x.fall(111);
        due("throws left", x.count(7), 1);
        x.hold(11);
        x.fall(1);
        due("throws left", x.count(7), 0);
        due("fall with none left", x.fall(1), NOT);
    }

    // ---- promise 7: draw

    private static final int[] DRAWS = {0, 1, -1, 2, -2, 3, 4, 2147483, 12345, 1103515245, -1103515245, 1 << 30, -(1 << 30),
        LEAST, LEAST + 1, GREATEST, GREATEST - 1};

    private static int drawn(int start, int dice, int sides, String held) {
        BigInteger z = BigInteger.valueOf(start);
        StringBuilder shown = new StringBuilder(held);
        for (int i = 0; i < dice; i++) {
            z = z.multiply(BigInteger.valueOf(1103515245)).add(BigInteger.valueOf(12345)).mod(BigInteger.ONE.shiftLeft(31));
            shown.append(z.shiftRight(12).mod(BigInteger.valueOf(sides)).intValueExact() + 1);
        }
        char[] figures = shown.toString().toCharArray();
        Arrays.sort(figures);
        return Integer.parseInt(new String(figures));
    }

    private static void promise07NotWhereNothingIsToBeThrown() {
        for (Stage stage : Stage.values()) {
            if (stage.toThrow() == 0) eachRefused(stage, "draw", DRAWS, FiveDice::draw, NOT);
        }
    }

    private static void promise07ByHand() {
        // Of 0: 12345, then 1406932606, 654583775, 1449466924, 229283573: 3, 343489, 159810, 353873, 55977 by 4096.
        due("draw(0)", begun(5, 6, 1, 5, 1, 0).draw(0), 12446);
        due("draw(0) of one die", begun(1, 6, 1, 5, 1, 0).draw(0), 4);
        due("draw(0) of one die of 2 sides", begun(1, 2, 1, 5, 1, 0).draw(0), 2);
        due("draw(0) of one die of 3 sides", begun(1, 3, 1, 5, 1, 0).draw(0), 1);
    }

    private static void promise07ProductsThatWrapAround() {
        for (int d = 1; d <= 5; d++) {
            for (int s = 2; s <= 6; s++) {
                for (int z : DRAWS) {
                    due("draw(" + z + ") of " + d + ", " + s, begun(d, s, 1, 5, 1, 0).draw(z), drawn(z, d, s, ""));
                }
            }
        }
    }

    private static void promise07ModuloTwoToThe31() {
        for (int z : DRAWS) {
            int other = z + LEAST;
            int heap = begun(5, 6, 1, 5, 1, 0).draw(z);
            due("draw(" + other + ") as draw(" + z + ")", begun(5, 6, 1, 5, 1, 0).draw(other), heap);
        }
    }

    private static void promise07OnlyThoseThatAreNotHeld() {
        for (int z : DRAWS) {
            due("none held", Stage.NONE_HELD.make().draw(z), drawn(z, 3, 4, ""));
            due("one held", Stage.ONE_HELD.make().draw(z), drawn(z, 2, 4, "4"));
            due("two held", Stage.TWO_HELD.make().draw(z), drawn(z, 1, 4, "24"));
        }
    }

    private static void promise07AsIfTheyFell() {
        for (Stage stage : Stage.values()) {
            if (stage.toThrow() == 0) continue;
            FiveDice x = stage.make();
            FiveDice twin = stage.make();
            x.draw(-77);
            twin.fall(drawn(-77, stage.toThrow(), stage.counts[1], ""));
            if (!look(x).equals(look(twin))) fault(stage + ": a draw leaves " + look(x));
            if (!playOn(x).equals(playOn(twin))) fault(stage + ": a draw is no fall");
        }
    }

    // ---- promise 8: hold; promise 12: worthOf

    /** Of 244: sides that are not shown, shown once too often, the figure 0, below 0, too many, the ends of int. */
    private static final int[] NO_PARTS = {1, 3, 5, 6, 9, 22, 12, 14, 34, 45, 224, 444, 144, 2244, 2444, 24424, 10, 20, 40,
        100, 204, 240, 402, 2440, 20044, -2, -4, -24, -244, LEAST, LEAST + 1, GREATEST};

    private static void promise08NotAheadOfOutside() {
        for (Stage stage : Stage.values()) {
            if (!stage.mayHold()) eachRefused(stage, "hold", ANY_NUMBERS, FiveDice::hold, NOT);
        }
    }

    private static void promise08NotWhileSomeAreToBeThrown() {
        eachRefused(Stage.NONE_HELD, "hold", new int[] {0, 2, 244}, FiveDice::hold, NOT);
        eachRefused(Stage.ONE_HELD, "hold", new int[] {0, 4, 244}, FiveDice::hold, NOT);
        eachRefused(Stage.TWO_HELD, "hold", new int[] {0, 2, 24, 244}, FiveDice::hold, NOT);
        eachRefused(Stage.LAST_HOLD, "hold", new int[] {0, 3, 34, 134}, FiveDice::hold, NOT);
    }

    private static void promise08NotWithNoThrowsLeft() {
        eachRefused(Stage.LAST_THROW, "hold", new int[] {0, 3, 44, 344}, FiveDice::hold, NOT);
        eachRefused(Stage.ALL_HELD_TWICE, "hold", new int[] {0, 2, 44, 244}, FiveDice::hold, NOT);
        FiveDice x = begun(2, 3, 1, 5, 1, 0);
        x.fall(12);
        due("hold(0) of a turn of one throw", x.hold(0), NOT);
        due("hold(12) of a turn of one throw", x.hold(12), NOT);
    }

    private static void promise08NoPartOfTheHeap() {
        eachRefused(Stage.HEAP, "hold", NO_PARTS, FiveDice::hold, OUTSIDE);
        eachRefused(Stage.ALL_HELD, "hold", NO_PARTS, FiveDice::hold, OUTSIDE);
        eachRefused(Stage.SECOND_THROW, "hold", new int[] {2, 11, 33, 44, 244, 1344, 10, -134}, FiveDice::hold, OUTSIDE);
        eachRefused(Stage.SECOND_HEAP, "hold", new int[] {2, 12, 112, 1111, 10, 110, -1}, FiveDice::hold, OUTSIDE);
    }

    private static void promise08EveryPartInAnyOrder() {
        int[][] parts = {{0, 3, 0}, {2, 2, 2}, {4, 2, 4}, {24, 1, 24}, {42, 1, 24}, {44, 1, 44}};
        for (int[] part : parts) {
            FiveDice x = Stage.HEAP.make();
            due("hold(" + part[0] + ")", x.hold(part[0]), part[1]);
            dueCounts("behind hold(" + part[0] + ")", x, 3, 4, 3, 2, 0, 0, part[2], 2, part[1], 1);
        }
        for (int number : orders(2345)) {
            FiveDice x = begun(5, 6, 2, 5, 1, 0);
            x.fall(12345);
            due("hold(" + number + ")", x.hold(number), 1);
            due("count(6)", x.count(6), 2345);
        }
    }

    private static void promise08NoneHeld() {
        FiveDice x = Stage.HEAP.make();
        due("hold(0)", x.hold(0), 3);
        dueCounts("none held", x, 3, 4, 3, 2, 0, 0, 0, 2, 3, 1);
        due("all fall", x.fall(111), 111);
        due("throws left", x.count(7), 1);
    }

    private static void promise08AllHeldAtOnce() {
        for (int number : new int[] {244, 424, 442}) {
            FiveDice x = Stage.HEAP.make();
            due("hold(" + number + ")", x.hold(number), 0);
            dueCounts("all held", x, 3, 4, 3, 2, 0, 0, 244, 1, 0, 1);
            due("fall, all held", x.fall(1), NOT);
            due("a part of it behind that", x.hold(2), 2);
        }
    }

    private static void promise08AllHeldUntilNoneIsLeft() {
        FiveDice x = Stage.HEAP.make();
        due("hold of all", x.hold(244), 0);
        due("hold of all again", x.hold(244), 0);
        due("throws left", x.count(7), 0);
        due("hold of all, none left", x.hold(244), NOT);
        due("the heap is there", x.fill(0), 12);
    }

    private static void promise08OneDie() {
        FiveDice x = begun(1, 2, 3, 5, 1, 0);
        x.fall(1);
        due("hold(2) of a 1", x.hold(2), OUTSIDE);
        due("hold(11) of a 1", x.hold(11), OUTSIDE);
        due("hold(1)", x.hold(1), 0);
        due("hold(0)", x.hold(0), 1);
        due("hold(0) again", x.hold(0), NOT);
        due("fall(2)", x.fall(2), 2);
        due("hold(2), no throws left", x.hold(2), NOT);
    }

    private static void promise08EverySizeHasItsParts() {
        for (int d = 1; d <= 5; d++) {
            for (int s = 2; s <= 6; s++) {
                for (int side : new int[] {1, s}) {
                    for (int held = 0; held <= d + 1; held++) holdAlike(d, s, side, held);
                }
            }
        }
    }

    /** Of dice that all show one side so many are held. */
    private static void holdAlike(int d, int s, int side, int held) {
        int[] ones = {0, 1, 11, 111, 1111, 11111, 111111};
        FiveDice x = begun(d, s, 2, 5, 1, 0);
        x.fall(side * ones[d]);
        int number = side * ones[held];
        String what = "hold(" + number + ") of " + d + " dice";
        due("worthOf ahead of " + what, x.worthOf(number) >= 0 ? 1 : 0, held > d ? 0 : 1);
        due(what, x.hold(number), held > d ? OUTSIDE : d - held);
        due("count(6) behind " + what, x.count(6), held > d ? side * ones[d] : number);
        due("count(7) behind " + what, x.count(7), held == d ? 0 : 1);
    }

    private static void promise12NotAheadOfOutside() {
        for (Stage stage : Stage.values()) {
            if (!stage.mayHold()) eachRefused(stage, "worthOf", ANY_NUMBERS, FiveDice::worthOf, NOT);
        }
    }

    private static void promise12NoPartOfTheHeap() {
        eachRefused(Stage.HEAP, "worthOf", NO_PARTS, FiveDice::worthOf, OUTSIDE);
        eachRefused(Stage.ALL_HELD, "worthOf", NO_PARTS, FiveDice::worthOf, OUTSIDE);
        eachRefused(Stage.SECOND_HEAP, "worthOf", new int[] {2, 12, 112, 1111, 10, 110, -1}, FiveDice::worthOf, OUTSIDE);
    }

    private static void promise12NoneHeldAndAllHeld() {
        // One die: with 2 throws left none held is worth 4.25, a held 4 is worth 4, times 36.
        FiveDice x = begun(1, 6, 3, 5, 1, 0);
        x.fall(4);
        due("worthOf(0), 2 left", x.worthOf(0), 153);
        due("worthOf(4), 2 left", x.worthOf(4), 144);
        x.hold(4);
        due("worthOf(0), 1 left", x.worthOf(0), 21);
        due("worthOf(4), 1 left", x.worthOf(4), 24);
        x.hold(4);
        due("worthOf(4), none left", x.worthOf(4), NOT);
    }

    private static void promise12AllHeldIsTheHeapItselfWithAThrowLess() {
        // A held 3 with 2 left may still be thrown again with 1 left: 3.5 and not 3, times 36.
        FiveDice x = begun(1, 6, 3, 5, 1, 0);
        x.fall(3);
        due("worthOf(3)", x.worthOf(3), 126);
        x.hold(3);
        due("worth behind it", x.worth(), 21);
        due("worthOf(3), the last throw", x.worthOf(3), 18);
    }

    private static void promise12AnyOrderAndAsWorthBehindTheHold() {
        for (int number : new int[] {0, 2, 4, 24, 42, 44}) {
            FiveDice x = Stage.HEAP.make();
            long told = x.worthOf(number);
            x.hold(number);
            due("worth behind hold(" + number + ")", x.worth(), told);
        }
        FiveDice x = Stage.HEAP.make();
        due("worthOf(42)", x.worthOf(42), x.worthOf(24));
        due("worthOf(442)", x.worthOf(442), x.worthOf(244));
        // All held: worth is told times a unit that is smaller by 4^3.
        long all = x.worthOf(424);
        x.hold(424);
        due("worth behind all held", 64 * x.worth(), all);
    }

    // ---- promise 9: fill

    private static void promise09UnknownAheadOfNot() {
        for (Stage stage : Stage.values()) {
            int[] numbers = {-1, -2, stage.rows(), stage.rows() + 1, 8, 9, 31, 32, 33, 64, -32, LEAST, GREATEST};
            eachRefused(stage, "fill", numbers, FiveDice::fill, UNKNOWN);
        }
    }

    private static void promise09NotWithoutAHeap() {
        for (Stage stage : Stage.values()) {
            for (int row = 0; row < stage.rows() && !stage.hasHeap(); row++) {
                eachRefused(stage, "fill", new int[] {row}, FiveDice::fill, NOT);
            }
        }
    }

    private static void promise09NotWhileSomeAreToBeThrown() {
        for (Stage stage : new Stage[] {Stage.NONE_HELD, Stage.ONE_HELD, Stage.TWO_HELD, Stage.LAST_HOLD}) {
            eachRefused(stage, "fill", new int[] {0, 1}, FiveDice::fill, NOT);
        }
    }

    private static void promise09NotAFilledRow() {
        eachRefused(Stage.SECOND_HEAP, "fill", new int[] {1}, FiveDice::fill, NOT);
        // Also where it was filled with no points.
        FiveDice x = begun(1, 6, 1, 0, 6, 0, 5, 1, 0);
        x.fall(5);
        due("fill(0)", x.fill(0), 0);
        x.fall(6);
        due("fill(0) again", x.fill(0), NOT);
        due("fill(1)", x.fill(1), 6);
    }

    private static void promise09AheadOfThrowsThatAreLeft() {
        FiveDice x = Stage.HEAP.make();
        due("fill with 2 left", x.fill(0), 12);
        dueCounts("before the second turn", x, 3, 4, 3, 2, 1, 12, 0, 3, 3, 1);
        x = Stage.ALL_HELD.make();
        due("fill with 1 left", x.fill(1), 10);
        dueCounts("before the second turn", x, 3, 4, 3, 2, 1, 10, 0, 3, 3, 1);
        x = Stage.LAST_THROW.make();
        due("fill with none left", x.fill(0), 13);
        dueCounts("before the second turn", x, 3, 4, 3, 2, 1, 13, 0, 3, 3, 1);
    }

    private static void promise09LastRow() {
        FiveDice x = Stage.SECOND_HEAP.make();
        due("the last row", x.fill(0), 5);
        dueCounts("all is filled", x, 3, 4, 3, 2, 2, 16, 0, 0, 0, 1);
        due("fall", x.fall(111), NOT);
        due("draw", x.draw(1), NOT);
        due("hold", x.hold(0), NOT);
        due("fill", x.fill(0), NOT);
        due("worth", x.worth(), 0);
        due("unit", x.unit(), 1);
    }

    private static void promise09FirstAndLastOfEightRows() {
        FiveDice x = Stage.EIGHT_BEGUN.make();
        for (int row : new int[] {7, 0, 3, 6, 1, 2, 5, 4}) {
            x.fall(2);
            due("fill(" + row + ")", x.fill(row), 2 + row);
            due("filled(" + row + ")", x.filled(row), 2 + row);
        }
        due("the sum", x.count(5), 44);
        due("filled rows", x.count(4), 8);
    }

    // ---- promises 10, 11, 13, 14: where the game is

    private static void dueWorths(String where, FiveDice x, long unit, long worth, int hold, int row) {
        due(where + ": unit", x.unit(), unit);
        due(where + ": worth", x.worth(), worth);
        due(where + ": bestHold", x.bestHold(), hold);
        due(where + ": bestRow", x.bestRow(), row);
    }

    private static FiveDice twoRowsOfOneDie() {
        return game(1, 6, 3, 5, 1, 0, 5, 1, 0);
    }

    private static void promise10And11And13And14ThroughAGame() {
        // One die is worth 3.5 with 1 throw, 4.25 with 2, 14 / 3 with 3.
        FiveDice x = twoRowsOfOneDie();
        dueWorths("not begun", x, NOT, NOT, NOT, NOT);
        x.begin();
        dueWorths("before the first turn", x, 46656, 435456, NOT, NOT);
        x.fall(4);
        dueWorths("a 4, 2 left", x, 7776, 69336, 0, 0);
        x.hold(0);
        dueWorths("none held, 2 left", x, 7776, 69336, NOT, NOT);
        x.fall(5);
        dueWorths("a 5, 1 left", x, 1296, 12528, 5, 0);
        x.hold(5);
        dueWorths("a held 5, none left", x, 216, 2088, NOT, 0);
        x.fill(0);
        dueWorths("before the second turn", x, 216, 1008, NOT, NOT);
        x.fall(3);
        dueWorths("a 3, 2 left", x, 36, 153, 0, 1);
        x.hold(3);
        dueWorths("a held 3, 1 left", x, 6, 21, 0, 1);
        x.hold(0);
        dueWorths("none held, 1 left", x, 6, 21, NOT, NOT);
        x.fall(2);
        dueWorths("a 2, none left", x, 1, 2, NOT, 1);
        x.fill(1);
        dueWorths("all is filled", x, 1, 0, NOT, NOT);
        x.end();
        dueWorths("ended", x, NOT, NOT, NOT, NOT);
    }

    private static void promise10NotWhereItHasNotBegun() {
        for (Stage stage : Stage.values()) {
            if (!stage.begun()) dueUnchanged(stage, "unit", FiveDice::unit, NOT);
        }
    }

    private static void promise10UnitOfTheHeapAheadOfTheHold() {
        long unit = Stage.HEAP.make().unit();
        due("2 throws left, and 3 of one row", unit, 1L << 30);
        due("none held", Stage.NONE_HELD.make().unit(), unit);
        due("one held", Stage.ONE_HELD.make().unit(), unit);
        due("two held", Stage.TWO_HELD.make().unit(), unit);
        due("all held", Stage.ALL_HELD.make().unit(), 1L << 24);
    }

    private static void promise11NotWhereItHasNotBegun() {
        for (Stage stage : Stage.values()) {
            if (!stage.begun()) dueUnchanged(stage, "worth", FiveDice::worth, NOT);
        }
    }

    private static void promise11NothingWhenAllAreFilled() {
        dueUnchanged(Stage.ALL_FILLED, "worth", FiveDice::worth, 0);
    }

    private static void promise11OfTheHoldAndNotOfTheHeap() {
        // A 6 that is thrown again is worth 3.5, though 6 was the best.
        FiveDice x = begun(1, 6, 2, 5, 1, 0);
        x.fall(6);
        due("worth of the heap", x.worth(), 36);
        x.hold(0);
        due("worth of the hold", x.worth(), 21);
    }

    /** Heaps of so many dice, as they are told. */
    private static List<Integer> heaps(int d, int s) {
        List<Integer> found = new ArrayList<>(List.of(0));
        for (int i = 0; i < d; i++) {
            List<Integer> larger = new ArrayList<>();
            for (int heap : found) {
                for (int side = Math.max(1, heap % 10); side <= s; side++) larger.add(10 * heap + side);
            }
            found = larger;
        }
        return found;
    }

    private interface Heap {
        void of(int d, int s, int heap);
    }

    private static void eachHeap(Heap check) {
        for (int d = 1; d <= 5; d++) {
            for (int s = 2; s <= 6; s++) {
                for (int heap : heaps(d, s)) check.of(d, s, heap);
            }
        }
    }

    private static void promise11OfEveryHeapInAll() {
        // In one row of all, dice are on their own: each counts what it shows, or the mean if that is more.
        eachHeap((d, s, heap) -> {
            FiveDice x = begun(d, s, 2, 5, 1, 0);
            x.fall(heap);
            int twice = 0;
            for (int rest = heap; rest > 0; rest /= 10) twice += Math.max(2 * (rest % 10), s + 1);
            due("worth of " + heap + " of " + s + " sides", 2 * x.worth(), twice * Math.round(Math.pow(s, d)));
        });
    }

    private static void promise13OfEveryHeapInAll() {
        // A die that shows just the mean is as good thrown again: it is not held, as of several the fewest are.
        eachHeap((d, s, heap) -> {
            FiveDice x = begun(d, s, 2, 5, 1, 0);
            x.fall(heap);
            StringBuilder held = new StringBuilder("0");
            for (char figure : ("" + heap).toCharArray()) {
                if (2 * (figure - '0') > s + 1) held.append(figure);
            }
            due("bestHold of " + heap + " of " + s + " sides", x.bestHold(), Integer.parseInt(held.toString()));
        });
    }

    private static void promise11And13And14And15WhereNothingIsWorthAnything() {
        FiveDice x = begun(2, 3, 2, 2, 1, 0, 4, 1, 0);
        due("worth", x.worth(), 0);
        x.fall(23);
        dueWorths("a heap", x, 729, 0, 0, 0);
        due("worthOf(23)", x.worthOf(23), 0);
        due("chance(0)", x.chance(0), 729);
        due("chance(1)", x.chance(1), 0);
        x.fill(0);
        x.fall(11);
        dueWorths("the last heap", x, 9, 0, 0, 1);
        due("fill(1)", x.fill(1), 0);
        dueLuckAndSlip("all is filled", x, 0, 0);
    }

    private static void promise13NotAsForHold() {
        for (Stage stage : Stage.values()) {
            if (!stage.mayHold()) dueUnchanged(stage, "bestHold", FiveDice::bestHold, NOT);
        }
    }

    private static void promise13NoneAndAll() {
        FiveDice x = begun(2, 6, 2, 1, 2, 0);
        x.fall(66);
        due("all of a pair of sixes", x.bestHold(), 66);
        x = begun(2, 6, 2, 5, 1, 0);
        x.fall(33);
        due("none of low dice", x.bestHold(), 0);
        x = begun(2, 6, 2, 5, 1, 0);
        x.fall(43);
        due("only a 4", x.bestHold(), 4);
    }

    private static void promise13FewestDiceOfSeveral() {
        // Points for whatever is shown: all holds are the same.
        FiveDice x = begun(3, 4, 3, 2, 1, 9);
        x.fall(432);
        due("all the same", x.bestHold(), 0);
        // A run of 3 of 4 sides: a held 3 takes 12 or 24 (4 of 16), a held 13 takes a 2 (1 of 4), none has 12 of 64.
        x = begun(3, 4, 2, 2, 3, 30);
        x.fall(311);
        due("worthOf(3)", x.worthOf(3), 30 * 16);
        due("worthOf(13)", x.worthOf(13), 30 * 16);
        due("worthOf(0)", x.worthOf(0), 30 * 12);
        due("one die as good as two", x.bestHold(), 3);
        // A pair that is held is as sure as all.
        x = begun(3, 6, 2, 3, 1, 30);
        x.fall(166);
        due("two dice as good as three", x.bestHold(), 66);
    }

    private static void promise13LeastAsToldOfSeveral() {
        FiveDice x = begun(4, 6, 2, 2, 2, 30);
        x.fall(4321);
        due("12, 23 or 34", x.bestHold(), 12);
        x = begun(4, 6, 2, 3, 1, 30);
        x.fall(5353);
        due("33 or 55", x.bestHold(), 33);
        x = begun(5, 6, 2, 2, 3, 30);
        x.fall(65432);
        due("234, 345 or 456", x.bestHold(), 234);
    }

    private static void promise14NotWithoutAHeap() {
        for (Stage stage : Stage.values()) {
            if (!stage.hasHeap()) dueUnchanged(stage, "bestRow", FiveDice::bestRow, NOT);
        }
    }

    private static void promise14LeastNumberOfSeveral() {
        FiveDice x = begun(1, 2, 1, 5, 1, 0, 5, 1, 0, 5, 1, 0, 5, 1, 0, 5, 1, 0, 5, 1, 0, 5, 1, 0, 5, 1, 0);
        for (int row = 0; row < 8; row++) {
            x.fall(1 + row % 2);
            due("of those that are left", x.bestRow(), row);
            x.fill(row);
        }
        due("all is filled", x.bestRow(), NOT);
        x = begun(1, 2, 1, 5, 1, 0, 5, 1, 0, 5, 1, 0);
        x.fall(1);
        x.fill(1);
        x.fall(2);
        due("0 or 2", x.bestRow(), 0);
        x.fill(0);
        x.fall(2);
        due("the last one", x.bestRow(), 2);
    }

    private static void promise14AsIfNoThrowsWereLeft() {
        // Sixes, or all: a 6 has 6 in both; all is worth 4.25 later, sixes 66 / 36.
        FiveDice x = begun(1, 6, 2, 5, 1, 0, 0, 6, 0);
        x.fall(6);
        due("with a throw left", x.bestRow(), 1);
        x.hold(6);
        due("with none left", x.bestRow(), 1);
        // A 1 is best thrown again, and as it is it has no points in the sixes.
        x = begun(1, 6, 2, 0, 6, 0, 0, 1, 0);
        x.fall(1);
        due("a 1 with a throw left", x.bestRow(), 1);
    }

    private static void promise14OfPointsAndWhatIsBehindThem() {
        // 3 in threes, and 3.5 behind; 3 in all, and 0.5 behind.
        FiveDice x = begun(1, 6, 1, 5, 1, 0, 0, 3, 0);
        x.fall(3);
        due("a 3", x.bestRow(), 1);
        // 4 in all, and 0.5 behind; nothing in threes, and 3.5 behind.
        x = begun(1, 6, 1, 5, 1, 0, 0, 3, 0);
        x.fall(4);
        due("a 4", x.bestRow(), 0);
        x = begun(1, 6, 1, 5, 1, 0, 0, 3, 0);
        x.fall(2);
        due("a 2", x.bestRow(), 1);
    }

    // ---- promise 15: chance

    private static void promise15OutsideOnEachSide() {
        int[] numbers = {-1, 501, -500, 502, LEAST, GREATEST};
        for (Stage stage : Stage.values()) eachRefused(stage, "chance", numbers, FiveDice::chance, OUTSIDE);
    }

    private static void promise15NotWhereItHasNotBegun() {
        int[] numbers = {0, 1, 250, 500};
        for (Stage stage : Stage.values()) {
            if (!stage.begun()) eachRefused(stage, "chance", numbers, FiveDice::chance, NOT);
        }
    }

    private static void promise15ZeroIsSureAndFiveHundredIsNot() {
        for (Stage stage : Stage.values()) {
            if (!stage.begun()) continue;
            dueUnchanged(stage, "chance(0)", x -> x.chance(0), stage.make().unit());
            dueUnchanged(stage, "chance(500)", x -> x.chance(500), 0);
        }
    }

    private static void promise15ThroughAGame() {
        FiveDice x = begun(1, 6, 1, 5, 1, 0, 5, 1, 0);
        dueChances("before the first turn", x, 0, 36, 2, 36, 3, 35, 11, 3, 12, 1, 13, 0, 500, 0);
        x.fall(3);
        dueChances("a 3", x, 0, 6, 3, 6, 4, 6, 5, 5, 9, 1, 10, 0, 12, 0);
        x.fill(0);
        dueChances("below the sum, at it and above", x, 0, 6, 2, 6, 3, 6, 4, 6, 5, 5, 9, 1, 10, 0, 500, 0);
        x.fall(6);
        dueChances("the last heap", x, 0, 1, 9, 1, 10, 0);
        x.fill(1);
        dueChances("all is filled", x, 0, 1, 8, 1, 9, 1, 10, 0, 500, 0);
    }

    private static void dueChances(String where, FiveDice x, int... pairs) {
        for (int i = 0; i + 1 < pairs.length; i += 2) {
            due(where + ": chance(" + pairs[i] + ")", x.chance(pairs[i]), pairs[i + 1]);
        }
    }

    private static void promise15WhileSomeAreToBeThrown() {
        FiveDice x = begun(1, 6, 2, 5, 1, 0);
        x.fall(5);
        dueChances("a 5, with a throw left", x, 5, 6, 6, 1, 7, 0);
        x.hold(0);
        dueChances("none held", x, 1, 6, 2, 5, 5, 2, 6, 1, 7, 0);
        x.fall(2);
        dueChances("a 2 in the end", x, 2, 1, 3, 0);
    }

    private static void promise15ByThePlayThatBringsIt() {
        // A 5 is best kept, and 6 is aimed at by throwing it again.
        FiveDice x = begun(1, 6, 2, 5, 1, 0);
        due("chance(6)", x.chance(6), 11);
        due("chance(5)", x.chance(5), 20);
        // A 2 is best put down in the sixes for nothing, but 8 takes it and a 6 in all.
        x = begun(1, 6, 1, 5, 1, 0, 0, 6, 0);
        x.fall(2);
        due("bestRow", x.bestRow(), 1);
        due("chance(8) by the other row", x.chance(8), 1);
        due("chance(3) by the best row", x.chance(3), 4);
    }

    private static void promise15TheMostThatCanBe() {
        // Eight rows of all and 30, three dice of 4 sides: 42 each, with 1 of 64 each.
        FiveDice x = game(3, 4, 1);
        for (int i = 0; i < 8; i++) x.row(5, 1, 30);
        x.begin();
        due("chance(336)", x.chance(336), 1);
        due("chance(337)", x.chance(337), 0);
        due("chance(264)", x.chance(264), 1L << 48);
        due("chance(265)", x.chance(265), (1L << 48) - 1);
    }

    private static void promise15MostDiceAndSides() {
        // Three rows of all and 30, five dice of 6 sides: 35 to 60 each.
        FiveDice x = begun(5, 6, 1, 5, 1, 30, 5, 1, 30, 5, 1, 30);
        due("chance(105)", x.chance(105), 470184984576L);
        due("chance(106)", x.chance(106), 470184984575L);
        due("chance(180)", x.chance(180), 1);
        due("chance(181)", x.chance(181), 0);
        x.fall(66666);
        due("chance(180) of five sixes", x.chance(180), 1);
        due("chance(130) of five sixes", x.chance(130), 60466176);
        due("chance(131) of five sixes", x.chance(131), 60466175);
    }

    private static void promise15NoPointsOfOneHeapAlone() {
        // The least of a row is due to its first heap alone, its last, or one between.
        dueChances("ones", begun(1, 2, 1, 0, 1, 0), 0, 2, 1, 1, 2, 0);
        dueChances("twos", begun(1, 2, 1, 0, 2, 0), 0, 2, 1, 1, 2, 1, 3, 0);
        dueChances("no two alike", begun(2, 2, 1, 1, 2, 0), 0, 4, 1, 2, 2, 2, 3, 1, 4, 1, 5, 0);
        dueChances("ones and twos", begun(1, 2, 1, 0, 1, 0, 0, 2, 0), 0, 4, 1, 4, 2, 3, 3, 2, 4, 0);
        dueChances("twos and ones", begun(1, 2, 1, 0, 2, 0, 0, 1, 0), 0, 4, 1, 4, 2, 3, 3, 2, 4, 0);
    }

    private static void promise15NoMoreForAGreaterSum() {
        FiveDice x = Stage.ONE_HELD.make();
        long last = x.unit();
        for (int sum = 0; sum <= 40; sum++) {
            long chance = x.chance(sum);
            if (chance > last || chance < 0) fault("chance(" + sum + ") is " + chance + " behind " + last);
            last = chance;
        }
        due("the last of them", last, 0);
    }

    private static void promise15CantBeReachedAnyMore() {
        FiveDice x = begun(1, 6, 1, 0, 6, 0, 0, 1, 0);
        due("chance(7) at first", x.chance(7), 2);
        x.fall(2);
        due("chance(7) of a 2", x.chance(7), 0);
        due("chance(6) of a 2", x.chance(6), 1);
        x.fill(0);
        due("chance(2) of the ones", x.chance(2), 0);
        due("chance(1) of the ones", x.chance(1), 1);
    }

    // ---- promises 16 and 17: luck and slip

    private static void promise16And17NothingWhereItHasNotBegun() {
        for (Stage stage : Stage.values()) {
            if (stage.begun()) continue;
            dueUnchanged(stage, "luck", FiveDice::luck, 0);
            dueUnchanged(stage, "slip", FiveDice::slip, 0);
        }
    }

    private static void promise16And17NothingAtTheBeginning() {
        for (Stage stage : new Stage[] {Stage.BEFORE_FIRST, Stage.EIGHT_BEGUN}) {
            dueUnchanged(stage, "luck", FiveDice::luck, 0);
            dueUnchanged(stage, "slip", FiveDice::slip, 0);
        }
    }

    private static void promise16And17ByHand() {
        // 28 / 3 at first; times 46656, of which 3888 are a twelfth.
        FiveDice x = twoRowsOfOneDie();
        x.begin();
        x.fall(4);
        dueLuckAndSlip("a 4: 107 / 12 for 112 / 12", x, -5 * 3888, 0);
        x.hold(4);
        dueLuckAndSlip("held: 8 2 / 3 for 107 / 12", x, -5 * 3888, 3 * 3888);
        x.hold(0);
        dueLuckAndSlip("none held: 98 / 12 for 104 / 12", x, -5 * 3888, 9 * 3888);
        x.fall(6);
        dueLuckAndSlip("a 6: 128 / 12 for 98 / 12", x, 25 * 3888, 9 * 3888);
        x.fill(1);
        dueLuckAndSlip("filled", x, 25 * 3888, 9 * 3888);
        x.fall(1);
        dueLuckAndSlip("a 1: 4.25 for 14 / 3", x, 20 * 3888, 9 * 3888);
        x.fill(0);
        dueLuckAndSlip("filled too early: 1 for 4.25", x, 20 * 3888, 48 * 3888);
        due("the sum", x.count(5), 7);
        due("the end", 435456 + x.luck() - x.slip(), 7 * 46656);
    }

    private static void dueLuckAndSlip(String where, FiveDice x, long luck, long slip) {
        due(where + ": luck", x.luck(), luck);
        due(where + ": slip", x.slip(), slip);
    }

    /** Any play, good or bad: every hold and row is chosen by a counter. */
    private static void promise16And17ComeToTheEnd() {
        int[][] sizes = {{1, 2, 1, 8}, {1, 5, 3, 7}, {3, 5, 1, 7}, {2, 6, 2, 3}, {5, 6, 1, 3}, {3, 4, 3, 2}, {5, 6, 3, 1}};
        for (int[] size : sizes) {
            for (int way = 0; way < 6; way++) comeToTheEnd(size, way);
        }
    }

    private static void comeToTheEnd(int[] size, int way) {
        FiveDice x = game(size[0], size[1], size[2]);
        for (int i = 0; i < size[3]; i++) x.row((i + way) % 6, 1 + i % 3, 30 - i);
        x.begin();
        long unit = x.unit();
        long atFirst = x.worth();
        for (int i = 0; i < size[3]; i++) {
            x.draw(way * 1000 + i);
            for (int k = 1; k < size[2]; k++) {
                int heap = x.count(6);
                x.hold((way + k) % 3 == 0 ? 0 : (way + k) % 3 == 1 ? heap % 10 : heap);
                x.draw(way * 77 + k);
            }
            x.fill((i + way) % size[3]);
        }
        due("rows that are filled", x.count(4), size[3]);
        due("the end of " + Arrays.toString(size), atFirst + x.luck() - x.slip(), x.count(5) * unit);
    }

    private static void promise16OnlyThrowsAreLuck() {
        FiveDice x = Stage.HEAP.make();
        long luck = x.luck();
        x.hold(2);
        due("behind a hold", x.luck(), luck);
        x = Stage.HEAP.make();
        x.hold(244);
        due("behind a hold of all", x.luck(), luck);
        x.fill(1);
        due("behind a row", x.luck(), luck);
    }

    private static void promise17OnlyHoldsAndRowsAreSlips() {
        FiveDice x = Stage.ONE_HELD.make();
        long slip = x.slip();
        x.fall(11);
        due("behind a throw", x.slip(), slip);
        x = Stage.BEFORE_SECOND.make();
        slip = x.slip();
        x.draw(5);
        due("behind a draw", x.slip(), slip);
    }

    private static void promise17TheBestIsNoSlip() {
        FiveDice x = Stage.BEFORE_FIRST.make();
        for (int turn = 0; turn < 2; turn++) {
            x.draw(turn);
            for (int k = 0; k < 2; k++) {
                if (x.hold(x.bestHold()) > 0) x.draw(10 + k);
                due("behind the best hold", x.slip(), 0);
            }
            x.fill(x.bestRow());
            due("behind the best row", x.slip(), 0);
        }
        due("filled", x.count(4), 2);
    }

    private static void promise16And17StayBehindTheLastRow() {
        FiveDice x = twoRowsOfOneDie();
        x.begin();
        for (int row = 0; row < 2; row++) {
            x.fall(1);
            x.fill(row);
        }
        // Twice 4.25 for 14 / 3, and twice 1 for 4.25.
        dueLuckAndSlip("all is filled", x, -10 * 3888, 78 * 3888);
        x.end();
        dueLuckAndSlip("ended", x, 0, 0);
    }

    // ---- promise 18: points

    private static final int[] NO_HEAPS_OF_THREE = {0, 1, 11, 1111, 11111, 115, 151, 511, 119, 110, 101, 100, 10, -1, -111,
        -244, LEAST, GREATEST};

    private static void promise18WrongRows() {
        for (Stage stage : Stage.values()) {
            int heap = new int[] {0, 1, 11, 111, 1111, 11111}[stage.counts[0]];
            int[] rows = {-1, stage.rows(), stage.rows() + 1, 8, 32, LEAST, GREATEST};
            eachRefused(stage, "points of a heap in", rows, (x, row) -> x.points(row, heap), UNKNOWN);
            eachRefused(stage, "points of no heap in", rows, (x, row) -> x.points(row, 0), UNKNOWN);
        }
    }

    private static void promise18WrongHeaps() {
        for (Stage stage : Stage.values()) {
            if (stage.rows() != 2) continue;
            eachRefused(stage, "points in 0 of", NO_HEAPS_OF_THREE, (x, heap) -> x.points(0, heap), OUTSIDE);
            eachRefused(stage, "points in 1 of", NO_HEAPS_OF_THREE, (x, heap) -> x.points(1, heap), OUTSIDE);
        }
    }

    private static void promise18OfAnyHeapInEveryState() {
        for (Stage stage : Stage.values()) {
            if (stage.rows() != 2) continue;
            dueUnchanged(stage, "points(0, 414)", x -> x.points(0, 414), 11);
            dueUnchanged(stage, "points(1, 414)", x -> x.points(1, 414), 9);
            dueUnchanged(stage, "points(1, 214)", x -> x.points(1, 214), 0);
        }
    }

    private static void promise18FiguresInAnyOrder() {
        FiveDice x = new FiveDice();
        x.row(2, 5, 30);
        for (int number : orders(12345)) due("a run of 5 in " + number, x.points(0, number), 30);
        for (int number : orders(12346)) due("no run of 5 in " + number, x.points(0, number), 0);
    }

    /** Pairs of a heap and its points in a ROW. */
    private static void duePoints(int kind, int n, int p, int... pairs) {
        FiveDice x = new FiveDice();
        x.row(kind, n, p);
        for (int i = 0; i + 1 < pairs.length; i += 2) {
            String what = "points in " + kind + ", " + n + ", " + p + " of " + pairs[i];
            due(what, x.points(0, pairs[i]), pairs[i + 1]);
        }
    }

    private static void promise18Sides() {
        for (int p : new int[] {0, 30}) {
            duePoints(0, 1, p, 11111, 5, 11116, 4, 12345, 1, 23456, 0, 66666, 0);
            duePoints(0, 6, p, 66666, 30, 16666, 24, 23456, 6, 12345, 0, 11111, 0);
            duePoints(0, 3, p, 33333, 15, 31323, 9, 11111, 0);
        }
    }

    private static void promise18Alike() {
        for (int p : new int[] {0, 30}) {
            duePoints(1, 1, p, 12345, 15, 11111, 5, 66666, 30);
            duePoints(1, 2, p, 12345, 0, 12344, 14, 11111, 5);
            duePoints(1, 5, p, 66666, 30, 66665, 0);
            duePoints(1, 6, p, 66666, 0, 11111, 0, 12345, 0);
        }
    }

    private static void promise18Run() {
        duePoints(2, 1, 30, 66666, 30, 11111, 30, 13556, 30);
        duePoints(2, 1, 0, 66666, 0, 12345, 0);
        duePoints(2, 2, 30, 13511, 0, 13566, 30, 12222, 30, 11111, 0);
        duePoints(2, 4, 30, 12346, 30, 34566, 30, 23451, 30, 12356, 0, 13456, 30, 12456, 0);
        duePoints(2, 5, 30, 12345, 30, 23456, 30, 12346, 0, 13456, 0);
        duePoints(2, 6, 30, 12345, 0, 23456, 0, 66666, 0);
        duePoints(2, 6, 0, 12345, 0);
        duePoints(2, 5, 1, 12345, 1);
    }

    private static void promise18Groups() {
        duePoints(3, 1, 30, 11234, 30, 11111, 30, 11222, 30, 12345, 0);
        duePoints(3, 1, 0, 11234, 0, 12345, 0);
        duePoints(3, 2, 30, 11223, 30, 11222, 30, 11112, 0, 11111, 0, 66554, 30);
        duePoints(3, 3, 30, 11223, 0, 11222, 0);
        duePoints(3, 6, 30, 11223, 0, 66666, 0);
        duePoints(3, 6, 0, 11223, 0);
    }

    private static void promise18Spread() {
        duePoints(4, 1, 30, 66666, 30, 11111, 30, 66665, 0, 12345, 0);
        duePoints(4, 1, 0, 66666, 0, 66665, 0);
        duePoints(4, 2, 30, 66665, 30, 66655, 30, 66666, 0, 66654, 0);
        duePoints(4, 5, 30, 13456, 30, 12345, 30, 11345, 0);
        duePoints(4, 6, 30, 12345, 0, 66666, 0);
        duePoints(4, 6, 0, 12345, 0);
    }

    private static void promise18All() {
        for (int n : new int[] {1, 6}) {
            duePoints(5, n, 0, 11111, 5, 66666, 30, 12345, 15);
            duePoints(5, n, 30, 11111, 35, 66666, 60, 12345, 45);
        }
    }

    private static void promise18FewestDiceAndSides() {
        FiveDice x = game(1, 2, 1, 0, 1, 0, 0, 6, 0, 1, 1, 0, 2, 1, 30, 2, 2, 30, 3, 1, 30, 4, 1, 30, 5, 6, 30);
        int[] ofOne = {1, 0, 1, 30, 0, 0, 30, 31};
        int[] ofTwo = {0, 0, 2, 30, 0, 0, 30, 32};
        for (int row = 0; row < 8; row++) {
            due("points(" + row + ", 1)", x.points(row, 1), ofOne[row]);
            due("points(" + row + ", 2)", x.points(row, 2), ofTwo[row]);
            due("points(" + row + ", 3)", x.points(row, 3), OUTSIDE);
            due("points(" + row + ", 0)", x.points(row, 0), OUTSIDE);
        }
    }

    private static void promise18AreWhatFillGives() {
        int[][] rows = {{0, 4, 7}, {1, 2, 7}, {2, 3, 7}, {3, 1, 7}, {4, 2, 7}, {5, 2, 7}};
        for (int[] row : rows) {
            for (int heap : new int[] {111, 112, 123, 124, 234, 344, 444}) {
                FiveDice x = begun(3, 4, 1, row);
                int points = x.points(0, heap);
                x.fall(heap);
                due(Arrays.toString(row) + ": fill with " + heap, x.fill(0), points);
            }
        }
    }

    // ---- promise 19: ways

    private static void promise19WrongHeaps() {
        for (Stage stage : Stage.values()) {
            if (stage.counts[0] == 3) eachRefused(stage, "ways", NO_HEAPS_OF_THREE, FiveDice::ways, OUTSIDE);
        }
        int[] ofFive = {0, 1111, 111111, 11117, 71111, 11110, 10111, -11111, LEAST, GREATEST};
        eachRefused(Stage.NEW, "ways", ofFive, FiveDice::ways, OUTSIDE);
    }

    private static void promise19InEveryState() {
        for (Stage stage : Stage.values()) {
            if (stage.counts[0] != 3) continue;
            dueUnchanged(stage, "ways(444)", x -> x.ways(444), 1);
            dueUnchanged(stage, "ways(414)", x -> x.ways(414), 3);
            dueUnchanged(stage, "ways(321)", x -> x.ways(321), 6);
        }
    }

    private static void promise19EachForm() {
        int[][] forms = {{11111, 1}, {66666, 1}, {16666, 5}, {11666, 10}, {12666, 20}, {11266, 30}, {12366, 60}, {12345, 120},
            {23456, 120}};
        for (int[] form : forms) {
            FiveDice x = new FiveDice();
            for (int number : orders(form[0])) due("ways(" + number + ")", x.ways(number), form[1]);
        }
        due("ways of one die", game(1, 2, 1).ways(2), 1);
        due("ways of two dice alike", game(2, 2, 1).ways(22), 1);
        due("ways of two dice", game(2, 2, 1).ways(21), 2);
        due("ways of four dice", game(4, 4, 1).ways(4321), 24);
        due("ways of two pairs", game(4, 4, 1).ways(4343), 6);
    }

    // ---- promise 20: filled

    private static void promise20WrongRows() {
        for (Stage stage : Stage.values()) {
            int[] rows = {-1, -2, stage.rows(), stage.rows() + 1, 8, 31, 32, LEAST, GREATEST};
            eachRefused(stage, "filled", rows, FiveDice::filled, UNKNOWN);
        }
    }

    private static void promise20NoneWhereItWasNot() {
        for (Stage stage : Stage.values()) {
            FiveDice x = stage.make();
            for (int row = 0; row < stage.rows() && stage.counts[4] == 0; row++) {
                due(stage + ": filled(" + row + ")", x.filled(row), NONE);
            }
        }
    }

    private static void promise20PointsWhereItWas() {
        for (Stage stage : new Stage[] {Stage.BEFORE_SECOND, Stage.SECOND_HEAP}) {
            due(stage + ": filled(0)", stage.make().filled(0), NONE);
            due(stage + ": filled(1)", stage.make().filled(1), 11);
        }
        due("all is filled: filled(0)", Stage.ALL_FILLED.make().filled(0), 5);
        due("all is filled: filled(1)", Stage.ALL_FILLED.make().filled(1), 11);
    }

    private static void promise20NoPointsAreNotNone() {
        FiveDice x = begun(1, 6, 1, 0, 6, 0, 0, 5, 0);
        x.fall(1);
        due("fill(1)", x.fill(1), 0);
        due("filled(1)", x.filled(1), 0);
        due("filled(0)", x.filled(0), NONE);
    }

    // ---- promise 21: count

    private static void promise21EveryNumberInEveryState() {
        for (Stage stage : Stage.values()) dueCounts(stage.toString(), stage.make(), stage.counts);
    }

    private static void promise21BesideThem() {
        int[] numbers = {-1, 10, 11, -10, LEAST, GREATEST};
        for (Stage stage : Stage.values()) eachRefused(stage, "count", numbers, FiveDice::count, OUTSIDE);
    }

    private static void promise21AHoldTakesNoThrowButOfAllDice() {
        due("none held", Stage.NONE_HELD.make().count(7), 2);
        due("one held", Stage.ONE_HELD.make().count(7), 2);
        due("two held", Stage.TWO_HELD.make().count(7), 2);
        due("all held", Stage.ALL_HELD.make().count(7), 1);
        due("all held twice", Stage.ALL_HELD_TWICE.make().count(7), 0);
    }

    private static void promise21EachNumberOfThrows() {
        for (int t = 1; t <= 3; t++) {
            FiveDice x = begun(2, 3, t, 5, 1, 0, 5, 1, 0);
            due("before the first turn", x.count(7), t);
            x.fall(12);
            due("behind the first throw", x.count(7), t - 1);
            x.fill(0);
            due("before the second turn", x.count(7), t);
            x.fall(12);
            x.fill(1);
            due("all is filled", x.count(7), 0);
        }
    }

    private static void promise21AskingChangesNothing() {
        for (Stage stage : Stage.values()) {
            dueUnchanged(stage, "all that is asked", x -> {
                x.unit();
                x.worth();
                x.bestHold();
                x.bestRow();
                for (int i = 0; i <= 30; i++) x.chance(i);
                for (int number : ANY_NUMBERS) {
                    x.worthOf(number);
                    x.points(0, number);
                    x.ways(number);
                }
                return 0;
            }, 0);
        }
    }
}
