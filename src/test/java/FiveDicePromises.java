/** Each promise by hand: ordinary inputs, the edges that the document names, wrong inputs. */
public final class FiveDicePromises {
    private static int wrong = 0;

    private static void due(int promise, String what, long got, long want) {
        if (got != want) {
            wrong++;
            System.out.println("promise " + promise + ": " + what + " answered " + got + ", due is " + want);
        }
    }

    public static void main(String[] args) {
        newObject();
        dice();
        rows();
        begin();
        large();
        end();
        fall();
        draw();
        hold();
        holdAll();
        fill();
        units();
        worths();
        worthsOfHolds();
        bestHoldTies();
        bestRowTies();
        chances();
        luckAndSlip();
        points();
        ways();
        filled();
        counts();
        refusedChangesNothing();
        System.out.println(wrong == 0 ? "all promises hold" : wrong + " answers are not as due");
        if (wrong != 0) System.exit(1);
    }

    private static FiveDice game(int d, int s, int t, int... rows) {
        FiveDice x = new FiveDice();
        x.dice(d, s, t);
        for (int i = 0; i + 2 < rows.length; i += 3) x.row(rows[i], rows[i + 1], rows[i + 2]);
        return x;
    }

    private static FiveDice begun(int d, int s, int t, int... rows) {
        FiveDice x = game(d, s, t, rows);
        if (x.begin() != 1) {
            wrong++;
            System.out.println("a game did not begin");
        }
        return x;
    }

    private static void counts(int promise, FiveDice x, int... want) {
        for (int i = 0; i < want.length; i++) due(promise, "count(" + i + ")", x.count(i), want[i]);
    }

    private static void newObject() {
        FiveDice x = new FiveDice();
        counts(1, x, 5, 6, 3, 0, 0, 0, 0, 0, 0, 0);
        due(1, "filled(0)", x.filled(0), FiveDice.UNKNOWN);
        due(1, "worth()", x.worth(), FiveDice.NOT);
        due(1, "begin()", x.begin(), FiveDice.NOT);
        due(1, "luck()", x.luck(), 0);
        due(1, "slip()", x.slip(), 0);
    }

    private static void dice() {
        FiveDice x = new FiveDice();
        int[][] outside = {{0, 6, 3}, {6, 6, 3}, {-1, 6, 3}, {5, 1, 3}, {5, 7, 3}, {5, 6, 0}, {5, 6, 4},
            {Integer.MIN_VALUE, 6, 3}, {5, Integer.MAX_VALUE, 3}, {5, 6, Integer.MIN_VALUE}};
        for (int[] a : outside) {
            due(2, "dice outside", x.dice(a[0], a[1], a[2]), FiveDice.OUTSIDE);
            counts(2, x, 5, 6, 3);
        }
        due(2, "dice(1, 2, 1)", x.dice(1, 2, 1), 1);
        counts(2, x, 1, 2, 1);
        due(2, "dice(5, 6, 3)", x.dice(5, 6, 3), 1);
        counts(2, x, 5, 6, 3);
        x.dice(2, 3, 2);
        x.row(5, 1, 0);
        due(2, "dice with rows", x.dice(1, 4, 1), 1);
        counts(2, x, 1, 4, 1, 1);
        x.begin();
        due(2, "dice, begun", x.dice(2, 2, 2), FiveDice.NOT);
        due(2, "dice outside, begun", x.dice(0, 2, 2), FiveDice.OUTSIDE);
        counts(2, x, 1, 4, 1, 1);
        x.fall(3);
        x.fill(0);
        due(2, "dice, all filled", x.dice(2, 2, 2), FiveDice.NOT);
        x.end();
        due(2, "dice, ended", x.dice(2, 2, 2), 1);
    }

    private static void rows() {
        FiveDice x = new FiveDice();
        int[][] outside = {{-1, 1, 0}, {6, 1, 0}, {0, 0, 0}, {0, 7, 0}, {0, 1, -1}, {0, 1, 31},
            {Integer.MIN_VALUE, 1, 0}, {0, Integer.MAX_VALUE, 0}, {0, 1, Integer.MIN_VALUE}};
        for (int[] a : outside) due(3, "row outside", x.row(a[0], a[1], a[2]), FiveDice.OUTSIDE);
        due(3, "count(3)", x.count(3), 0);
        for (int i = 0; i < 8; i++) due(3, "row", x.row(i % 6, i % 2 == 0 ? 1 : 6, i % 2 == 0 ? 0 : 30), i);
        due(3, "row, full", x.row(0, 1, 0), FiveDice.FULL);
        due(3, "row, outside ahead of full", x.row(0, 7, 0), FiveDice.OUTSIDE);
        due(3, "count(3)", x.count(3), 8);
        x.dice(1, 2, 1);
        x.begin();
        due(3, "row, not ahead of full", x.row(0, 1, 0), FiveDice.NOT);
        due(3, "row, outside ahead of not", x.row(0, 0, 0), FiveDice.OUTSIDE);
    }

    private static void begin() {
        FiveDice x = new FiveDice();
        due(4, "begin, no rows", x.begin(), FiveDice.NOT);
        x = game(2, 3, 2, 5, 1, 0);
        due(4, "begin", x.begin(), 1);
        counts(4, x, 2, 3, 2, 1, 0, 0, 0, 2, 2, 1);
        due(4, "begin, begun", x.begin(), FiveDice.NOT);
        x.fall(11);
        x.fill(0);
        due(4, "begin, all filled", x.begin(), FiveDice.NOT);
        x.end();
        due(4, "begin, rows gone", x.begin(), FiveDice.NOT);
    }

    private static void large() {
        // 4^24, 8^16, 5^21, 6^19 and 75^8 are about 1000000000000000; 10^15 itself can't be met.
        due(4, "8^15", tryToBegin(3, 2, 3, 5), 1);
        due(4, "8^16", tryToBegin(3, 2, 2, 8), 1);
        due(4, "8^18", tryToBegin(3, 2, 3, 6), FiveDice.LARGE);
        due(4, "4^24", tryToBegin(1, 4, 3, 8), 1);
        due(4, "5^21", tryToBegin(1, 5, 3, 7), 1);
        due(4, "5^24", tryToBegin(1, 5, 3, 8), FiveDice.LARGE);
        due(4, "6^18", tryToBegin(1, 6, 3, 6), 1);
        due(4, "6^21", tryToBegin(1, 6, 3, 7), FiveDice.LARGE);
        due(4, "64^8", tryToBegin(3, 4, 1, 8), 1);
        due(4, "81^8", tryToBegin(4, 3, 1, 8), FiveDice.LARGE);
        due(4, "7776^3", tryToBegin(5, 6, 1, 3), 1);
        due(4, "7776^4", tryToBegin(5, 6, 1, 4), FiveDice.LARGE);
        due(4, "7776^24", tryToBegin(5, 6, 3, 8), FiveDice.LARGE);
        FiveDice x = game(5, 6, 3, 5, 1, 0, 5, 1, 0);
        due(4, "begin, large", x.begin(), FiveDice.LARGE);
        counts(4, x, 5, 6, 3, 2, 0, 0, 0, 0, 0, 0);
        due(4, "fall, large", x.fall(11111), FiveDice.NOT);
        due(4, "dice, large", x.dice(5, 6, 1), 1);
        due(4, "begin, not large any more", x.begin(), 1);
    }

    private static int tryToBegin(int d, int s, int t, int rows) {
        FiveDice x = game(d, s, t);
        for (int i = 0; i < rows; i++) x.row(5, 1, i);
        return x.begin();
    }

    private static void end() {
        FiveDice x = new FiveDice();
        due(5, "end, new", x.end(), 1);
        x.dice(2, 4, 2);
        x.row(5, 1, 0);
        due(5, "end, not begun", x.end(), 1);
        counts(5, x, 2, 4, 2, 0, 0, 0, 0, 0, 0, 0);
        x.row(5, 1, 7);
        x.row(0, 4, 0);
        x.begin();
        x.fall(44);
        x.fill(0);
        x.fall(31);
        x.hold(3);
        due(5, "end, in a turn", x.end(), 1);
        counts(5, x, 2, 4, 2, 0, 0, 0, 0, 0, 0, 0);
        due(5, "luck", x.luck(), 0);
        due(5, "slip", x.slip(), 0);
        due(5, "unit", x.unit(), FiveDice.NOT);
        due(5, "filled(0)", x.filled(0), FiveDice.UNKNOWN);
        due(5, "fall", x.fall(11), FiveDice.NOT);
        due(5, "hold", x.hold(0), FiveDice.NOT);
        due(5, "bestRow", x.bestRow(), FiveDice.NOT);
        due(5, "row", x.row(1, 1, 0), 0);
        due(5, "filled of the new row", x.filled(0), FiveDice.NONE);
        due(5, "begin", x.begin(), 1);
        due(5, "filled of the new row", x.filled(0), FiveDice.NONE);
        counts(5, x, 2, 4, 2, 1, 0, 0, 0, 2, 2, 1);
    }

    private static void fall() {
        FiveDice x = game(3, 4, 2, 5, 1, 0, 0, 4, 0);
        due(6, "fall, not begun", x.fall(111), FiveDice.NOT);
        due(6, "fall of nonsense, not begun", x.fall(-9), FiveDice.NOT);
        x.begin();
        int[] outside = {0, 1, 11, 1111, 115, 151, 511, 110, 101, 11, -111, 100111, Integer.MAX_VALUE, Integer.MIN_VALUE};
        for (int heap : outside) {
            due(6, "fall(" + heap + ")", x.fall(heap), FiveDice.OUTSIDE);
            due(6, "count(8)", x.count(8), 3);
        }
        due(6, "fall(431)", x.fall(431), 134);
        counts(6, x, 3, 4, 2, 2, 0, 0, 134, 1, 0, 1);
        due(6, "fall, nothing to throw", x.fall(111), FiveDice.NOT);
        due(6, "fall of nonsense, nothing to throw", x.fall(0), FiveDice.NOT);
        x.hold(4);
        due(6, "fall of too many", x.fall(123), FiveDice.OUTSIDE);
        due(6, "fall of too few", x.fall(1), FiveDice.OUTSIDE);
        due(6, "fall(42)", x.fall(42), 244);
        counts(6, x, 3, 4, 2, 2, 0, 0, 244, 0, 0, 1);
        x.fill(0);
        due(6, "fall(222)", x.fall(222), 222);
        x.fill(1);
        due(6, "fall, all filled", x.fall(222), FiveDice.NOT);
        due(6, "fall of nonsense, all filled", x.fall(2), FiveDice.NOT);
        due(6, "fall of 5 dice", begun(5, 6, 1, 5, 1, 0).fall(61524), 12456);
    }

    private static void draw() {
        FiveDice x = game(5, 6, 2, 5, 1, 0);
        due(7, "draw, not begun", x.draw(1), FiveDice.NOT);
        int[] starts = {0, 1, -1, 5, 77, 123456789, Integer.MAX_VALUE, Integer.MIN_VALUE, -123456789};
        for (int z : starts) {
            for (int sides = 2; sides <= 6; sides++) {
                x = begun(5, sides, 2, 5, 1, 0);
                due(7, "draw(" + z + ")", x.draw(z), drawn(z, 5, sides, ""));
                due(7, "draw, nothing to throw", x.draw(z), FiveDice.NOT);
                int first = x.count(6) / 10000;
                x.hold(first);
                due(7, "draw(" + z + ") with one held", x.draw(z), drawn(z, 4, sides, "" + first));
                due(7, "count(7)", x.count(7), 0);
            }
        }
        x.fill(0);
        due(7, "draw, all filled", x.draw(1), FiveDice.NOT);
    }

    private static int drawn(int start, int dice, int sides, String held) {
        java.math.BigInteger z = java.math.BigInteger.valueOf(start);
        StringBuilder shown = new StringBuilder(held);
        for (int i = 0; i < dice; i++) {
            z = z.multiply(java.math.BigInteger.valueOf(1103515245)).add(java.math.BigInteger.valueOf(12345))
                .mod(java.math.BigInteger.ONE.shiftLeft(31));
            shown.append(1 + (z.intValueExact() >> 12) % sides);
        }
        char[] figures = shown.toString().toCharArray();
        java.util.Arrays.sort(figures);
        return Integer.parseInt(new String(figures));
    }

    private static void hold() {
        FiveDice x = game(3, 4, 3, 5, 1, 0, 1, 2, 0);
        due(8, "hold, not begun", x.hold(0), FiveDice.NOT);
        x.begin();
        due(8, "hold, no heap", x.hold(0), FiveDice.NOT);
        due(8, "hold of nonsense, no heap", x.hold(-7), FiveDice.NOT);
        x.fall(424);
        int[] outside = {1, 3, 5, 22, 444, 2444, 20, 204, 2440, -2, -24, 10, 14, Integer.MAX_VALUE, Integer.MIN_VALUE};
        for (int heap : outside) {
            due(8, "hold(" + heap + ")", x.hold(heap), FiveDice.OUTSIDE);
            counts(8, x, 3, 4, 3, 2, 0, 0, 244, 2, 0, 1);
        }
        due(8, "hold(42)", x.hold(42), 1);
        counts(8, x, 3, 4, 3, 2, 0, 0, 24, 2, 1, 1);
        due(8, "hold, while one is to be thrown", x.hold(2), FiveDice.NOT);
        due(8, "hold of nonsense, while one is to be thrown", x.hold(-2), FiveDice.NOT);
        x.fall(1);
        due(8, "hold(0)", x.hold(0), 3);
        counts(8, x, 3, 4, 3, 2, 0, 0, 0, 1, 3, 1);
        due(8, "hold(0) again", x.hold(0), FiveDice.NOT);
        due(8, "fill, while all are to be thrown", x.fill(0), FiveDice.NOT);
        due(8, "fall", x.fall(333), 333);
        due(8, "hold, no throws left", x.hold(3), FiveDice.NOT);
        due(8, "hold of nonsense, no throws left", x.hold(9), FiveDice.NOT);
        x.fill(0);
        due(8, "hold, before a turn", x.hold(0), FiveDice.NOT);
        x.fall(111);
        x.fill(1);
        due(8, "hold, all filled", x.hold(0), FiveDice.NOT);
    }

    private static void holdAll() {
        FiveDice x = begun(3, 4, 3, 5, 1, 0);
        x.fall(143);
        due(8, "hold of all", x.hold(431), 0);
        counts(8, x, 3, 4, 3, 1, 0, 0, 134, 1, 0, 1);
        due(8, "hold of a part behind it", x.hold(4), 2);
        x.fall(44);
        due(8, "hold of all, no throws left", x.hold(444), FiveDice.NOT);
        due(8, "fall, no throws left", x.fall(444), FiveDice.NOT);
    }

    private static void fill() {
        FiveDice x = game(2, 6, 2, 5, 1, 3, 0, 6, 0, 1, 2, 0);
        due(9, "fill, not begun", x.fill(0), FiveDice.NOT);
        due(9, "fill of no row, not begun", x.fill(3), FiveDice.UNKNOWN);
        x.begin();
        due(9, "fill, no heap", x.fill(0), FiveDice.NOT);
        due(9, "fill(-1)", x.fill(-1), FiveDice.UNKNOWN);
        due(9, "fill(3)", x.fill(3), FiveDice.UNKNOWN);
        due(9, "fill(max)", x.fill(Integer.MAX_VALUE), FiveDice.UNKNOWN);
        due(9, "fill(min)", x.fill(Integer.MIN_VALUE), FiveDice.UNKNOWN);
        x.fall(66);
        due(9, "fill with throws left", x.fill(1), 12);
        counts(9, x, 2, 6, 2, 3, 1, 12, 0, 2, 2, 1);
        x.fall(35);
        due(9, "fill of a filled row", x.fill(1), FiveDice.NOT);
        x.hold(3);
        due(9, "fill, while one is to be thrown", x.fill(0), FiveDice.NOT);
        due(9, "fill of no row, while one is to be thrown", x.fill(8), FiveDice.UNKNOWN);
        x.fall(4);
        due(9, "fill with no points", x.fill(2), 0);
        x.fall(11);
        due(9, "fill", x.fill(0), 5);
        counts(9, x, 2, 6, 2, 3, 3, 17, 0, 0, 0, 1);
        due(9, "fill, all filled", x.fill(0), FiveDice.NOT);
        due(9, "fill of no row, all filled", x.fill(3), FiveDice.UNKNOWN);
    }

    private static void units() {
        FiveDice x = game(2, 3, 3, 5, 1, 0, 0, 3, 0);
        due(10, "unit, not begun", x.unit(), FiveDice.NOT);
        x.begin();
        due(10, "unit, before the first turn", x.unit(), 531441);
        x.fall(12);
        due(10, "unit, 2 throws left", x.unit(), 59049);
        x.hold(1);
        due(10, "unit, of the heap ahead of the hold", x.unit(), 59049);
        x.fall(3);
        due(10, "unit, 1 throw left", x.unit(), 6561);
        x.hold(13);
        due(10, "unit, behind a hold of all", x.unit(), 729);
        x.fill(0);
        due(10, "unit, before the second turn", x.unit(), 729);
        x.fall(33);
        x.fill(1);
        due(10, "unit, all filled", x.unit(), 1);
        x.end();
        due(10, "unit, ended", x.unit(), FiveDice.NOT);
        due(10, "unit of 4^24", begun(1, 4, 3, 5, 1, 0, 5, 1, 0, 5, 1, 0, 5, 1, 0, 5, 1, 0, 5, 1, 0, 5, 1, 0, 5, 1, 0).unit(),
            281474976710656L);
    }

    private static void worths() {
        FiveDice x = game(1, 6, 1, 5, 1, 0);
        due(11, "worth, not begun", x.worth(), FiveDice.NOT);
        x.begin();
        due(11, "worth of one die", x.worth(), 21);
        x.fall(4);
        due(11, "worth of a 4", x.worth(), 4);
        x.fill(0);
        due(11, "worth, all filled", x.worth(), 0);
        // With two throws 1, 2, 3 are thrown again for 3.5: (3 times 3.5 + 4 + 5 + 6) / 6 = 4.25.
        x = begun(1, 6, 2, 5, 1, 0);
        due(11, "worth with two throws", x.worth(), 153);
        x.fall(3);
        due(11, "worth of a 3 with a throw left", x.worth(), 21);
        x.hold(3);
        due(11, "worth of a held 3", x.worth(), 3);
        x = begun(1, 6, 2, 5, 1, 0);
        x.fall(3);
        x.hold(0);
        due(11, "worth of holding none", x.worth(), 21);
        x.fall(1);
        due(11, "worth of a 1 in the end", x.worth(), 1);
        x.end();
        due(11, "worth, ended", x.worth(), FiveDice.NOT);
        // With three throws 1 to 4 are thrown again for 4.25: (4 times 4.25 + 5 + 6) / 6 = 14 / 3.
        due(11, "worth with three throws", begun(1, 6, 3, 5, 1, 0).worth(), 1008);
        // A 1 goes to the ones, and 1 is left on the mean; a 2 to the twos, and 0.5 is left: 2.25.
        x = begun(1, 2, 1, 0, 1, 0, 0, 2, 0);
        due(11, "worth of two rows", x.worth(), 9);
        x.fall(1);
        due(11, "worth of a 1 in two rows", x.worth(), 4);
        x.fill(1);
        due(11, "worth of what is left", x.worth(), 1);
        // 240 points for sure, as a run of 1 is always shown, times 32^8.
        x = game(5, 2, 1);
        for (int i = 0; i < 8; i++) x.row(2, 1, 30);
        x.begin();
        due(11, "worth of eight sure rows", x.worth(), 240 * 1099511627776L);
    }

    private static void worthsOfHolds() {
        FiveDice x = game(2, 6, 2, 1, 2, 0);
        due(12, "worthOf, not begun", x.worthOf(0), FiveDice.NOT);
        x.begin();
        due(12, "worthOf, no heap", x.worthOf(0), FiveDice.NOT);
        due(12, "worthOf nonsense, no heap", x.worthOf(-1), FiveDice.NOT);
        x.fall(52);
        // A pair of all that are thrown: (2 + 4 + .. + 12) / 36 = 42 / 36; of a held 5: 10 / 6.
        due(12, "worthOf(0)", x.worthOf(0), 42);
        due(12, "worthOf(5)", x.worthOf(5), 60);
        due(12, "worthOf(2)", x.worthOf(2), 24);
        due(12, "worthOf(25)", x.worthOf(25), 0);
        due(12, "worthOf(52)", x.worthOf(52), 0);
        int[] outside = {1, 22, 55, 255, 205, 50, -5, 7, 77, Integer.MAX_VALUE, Integer.MIN_VALUE};
        for (int heap : outside) due(12, "worthOf(" + heap + ")", x.worthOf(heap), FiveDice.OUTSIDE);
        x.hold(5);
        due(12, "worthOf, while one is to be thrown", x.worthOf(5), FiveDice.NOT);
        x.fall(5);
        due(12, "worthOf, no throws left", x.worthOf(5), FiveDice.NOT);
        x.fill(0);
        due(12, "worthOf, all filled", x.worthOf(0), FiveDice.NOT);
        x = begun(2, 6, 2, 1, 2, 0);
        x.fall(33);
        due(12, "worthOf a held pair", x.worthOf(33), 216);
        due(12, "worthOf a half of it", x.worthOf(3), 36);
    }

    private static void bestHoldTies() {
        FiveDice x = game(2, 6, 2, 1, 2, 0);
        due(13, "bestHold, not begun", x.bestHold(), FiveDice.NOT);
        x.begin();
        due(13, "bestHold, no heap", x.bestHold(), FiveDice.NOT);
        x.fall(52);
        due(13, "bestHold", x.bestHold(), 5);
        x.hold(2);
        due(13, "bestHold, while one is to be thrown", x.bestHold(), FiveDice.NOT);
        x.fall(2);
        due(13, "bestHold, no throws left", x.bestHold(), FiveDice.NOT);
        x.fill(0);
        due(13, "bestHold, all filled", x.bestHold(), FiveDice.NOT);
        x = begun(2, 6, 2, 1, 2, 0);
        x.fall(66);
        due(13, "bestHold of all", x.bestHold(), 66);
        x = begun(3, 4, 3, 2, 1, 9);
        x.fall(432);
        due(13, "all holds the same: the fewest dice", x.bestHold(), 0);
        // Two alike for 9 points: none held is as good as a held 2 or a held 4, with fewer dice.
        x = begun(2, 4, 2, 3, 1, 9);
        x.fall(42);
        due(13, "worthOf(2)", x.worthOf(2), 36);
        due(13, "worthOf(0)", x.worthOf(0), 36);
        due(13, "none as good as one", x.bestHold(), 0);
        // Just two sides: a held 1 has 9 of 16, as has none; 14 held has 2 of 4.
        x = begun(3, 4, 2, 4, 2, 30);
        x.fall(421);
        due(13, "worthOf(1)", x.worthOf(1), 30 * 4 * 9);
        due(13, "worthOf(14)", x.worthOf(14), 30 * 16 * 2);
        due(13, "worthOf(0)", x.worthOf(0), 30 * 36);
        due(13, "none as good as a held 1", x.bestHold(), 0);
        x = begun(3, 6, 2, 0, 6, 0, 0, 6, 0);
        x.fall(661);
        due(13, "sixes are held", x.bestHold(), 66);
        // A run of 2 of sides 2 and 3: both held are sure, and no fewer dice are.
        x = begun(3, 4, 2, 2, 2, 30);
        x.fall(232);
        due(13, "a run is held", x.bestHold(), 23);
        // Of 1234 a run of 2 can be held in three ways; 12 is told least.
        x = begun(4, 6, 2, 2, 2, 30);
        x.fall(4321);
        due(13, "the least run is held", x.bestHold(), 12);
    }

    private static void bestRowTies() {
        FiveDice x = game(1, 6, 2, 5, 1, 2, 5, 1, 2, 5, 1, 2);
        due(14, "bestRow, not begun", x.bestRow(), FiveDice.NOT);
        x.begin();
        due(14, "bestRow, no heap", x.bestRow(), FiveDice.NOT);
        x.fall(4);
        due(14, "bestRow with throws left, of three alike", x.bestRow(), 0);
        x.hold(0);
        due(14, "bestRow, while one is to be thrown", x.bestRow(), FiveDice.NOT);
        x.fall(2);
        x.fill(0);
        x.fall(2);
        due(14, "bestRow of the two left", x.bestRow(), 1);
        x.fill(1);
        x.fall(3);
        due(14, "bestRow of the one left", x.bestRow(), 2);
        x.fill(2);
        due(14, "bestRow, all filled", x.bestRow(), FiveDice.NOT);
        // A 1 has as many points in both, but sixes are worth more later.
        x = begun(1, 6, 1, 0, 6, 0, 0, 5, 0);
        x.fall(1);
        due(14, "bestRow by what is left", x.bestRow(), 1);
        x = begun(1, 6, 1, 0, 5, 0, 0, 6, 0);
        x.fall(6);
        due(14, "bestRow by points", x.bestRow(), 1);
    }

    private static void chances() {
        FiveDice x = game(1, 6, 2, 5, 1, 0, 5, 1, 0);
        due(15, "chance, not begun", x.chance(0), FiveDice.NOT);
        due(15, "chance outside, not begun", x.chance(501), FiveDice.OUTSIDE);
        x.begin();
        due(15, "chance(-1)", x.chance(-1), FiveDice.OUTSIDE);
        due(15, "chance(501)", x.chance(501), FiveDice.OUTSIDE);
        due(15, "chance(max)", x.chance(Integer.MAX_VALUE), FiveDice.OUTSIDE);
        due(15, "chance(min)", x.chance(Integer.MIN_VALUE), FiveDice.OUTSIDE);
        due(15, "chance(500)", x.chance(500), 0);
        due(15, "chance(0)", x.chance(0), 1296);
        due(15, "chance(2)", x.chance(2), 1296);
        // 12 takes two sixes, each with 11 of 36.
        due(15, "chance(12)", x.chance(12), 121);
        due(15, "chance(13)", x.chance(13), 0);
        x.fall(5);
        // 12: thrown again, a sixth, and a six in the second turn.
        due(15, "chance(12) of a 5", x.chance(12), 11);
        // 11: kept, and a six in the second turn: 6 times 11; thrown again it is less.
        due(15, "chance(11) of a 5", x.chance(11), 66);
        x.hold(0);
        due(15, "chance(12) of holding none", x.chance(12), 11);
        // A six, and 5 or more with 20 of 36; or a five, and a six with 11 of 36.
        due(15, "chance(11) of holding none", x.chance(11), 20 + 11);
        x.fall(6);
        due(15, "chance(12) of a 6", x.chance(12), 11);
        x.fill(1);
        due(15, "chance(12) before the last turn", x.chance(12), 11);
        due(15, "chance(6) before the last turn", x.chance(6), 36);
        x.fall(5);
        x.fill(0);
        due(15, "chance(11), all filled", x.chance(11), 1);
        due(15, "chance(12), all filled", x.chance(12), 0);
        due(15, "chance(0), all filled", x.chance(0), 1);
        x.end();
        due(15, "chance, ended", x.chance(0), FiveDice.NOT);
        // What was kept of one game is not taken for another.
        x.row(5, 1, 1);
        x.row(5, 1, 0);
        x.begin();
        due(15, "chance(13) of another game", x.chance(13), 121);
    }

    private static void luckAndSlip() {
        FiveDice x = game(1, 6, 2, 5, 1, 0);
        due(16, "luck, not begun", x.luck(), 0);
        due(17, "slip, not begun", x.slip(), 0);
        x.begin();
        due(16, "luck at the beginning", x.luck(), 0);
        due(17, "slip at the beginning", x.slip(), 0);
        // 4.25 at first; a 5 is a luck of 0.75, all times 36.
        x.fall(5);
        due(16, "luck of a 5", x.luck(), 27);
        due(17, "slip of a throw", x.slip(), 0);
        // Thrown again it is worth 3.5: a slip of 1.5.
        x.hold(0);
        due(16, "luck of a hold", x.luck(), 27);
        due(17, "slip of a hold", x.slip(), 54);
        x.fall(1);
        due(16, "luck of a 1", x.luck(), 27 - 90);
        x.fill(0);
        due(16, "luck of a row", x.luck(), -63);
        due(17, "slip of the only row", x.slip(), 54);
        due(17, "the end", 153 + x.luck() - x.slip(), 36L * x.count(5));
        x.end();
        due(16, "luck, ended", x.luck(), 0);
        due(17, "slip, ended", x.slip(), 0);
        // A row ahead of a throw that is left: a 1 for 1, where 3.5 would be due.
        x = begun(1, 6, 2, 5, 1, 0);
        x.fall(1);
        due(16, "luck of a 1", x.luck(), 126 - 153);
        x.fill(0);
        due(17, "slip of a row too early", x.slip(), 90);
        // A hold of all: a 2 is kept.
        x = begun(1, 6, 2, 5, 1, 0);
        x.fall(2);
        x.hold(2);
        due(17, "slip of a hold of all", x.slip(), 126 - 72);
        // The wrong row: the 1 goes where the 2 would.
        x = begun(1, 2, 1, 0, 1, 0, 0, 2, 0);
        x.fall(1);
        due(16, "luck of a 1 in two rows", x.luck(), 2 * 4 - 9);
        x.fill(1);
        due(17, "slip of the wrong row", x.slip(), 2 * 4 - 2 * 1);
        x.draw(3);
        x.fill(0);
        due(17, "the end", 9 + x.luck() - x.slip(), 4L * x.count(5));
        // draw() adds luck, too.
        x = begun(1, 6, 1, 5, 1, 0);
        int shown = x.draw(99);
        due(16, "luck of a draw", x.luck(), 6L * shown - 21);
    }

    private static void pointsOf(int kind, int n, int p, int heap, int want) {
        FiveDice x = new FiveDice();
        x.row(kind, n, p);
        due(18, "points in " + kind + ", " + n + ", " + p + " of " + heap, x.points(0, heap), want);
    }

    private static void points() {
        pointsOf(0, 3, 9, 33123, 9);
        pointsOf(0, 6, 0, 12345, 0);
        pointsOf(0, 6, 0, 66666, 30);
        pointsOf(1, 3, 9, 32333, 14);
        pointsOf(1, 3, 9, 32313, 12);
        pointsOf(1, 3, 9, 32213, 0);
        pointsOf(1, 1, 9, 12345, 15);
        pointsOf(1, 5, 9, 66666, 30);
        pointsOf(1, 6, 9, 66666, 0);
        pointsOf(2, 4, 17, 12346, 17);
        pointsOf(2, 4, 17, 64335, 17);
        pointsOf(2, 4, 17, 12356, 0);
        pointsOf(2, 5, 17, 65432, 17);
        pointsOf(2, 5, 17, 12346, 0);
        pointsOf(2, 6, 17, 12345, 0);
        pointsOf(2, 1, 17, 11111, 17);
        pointsOf(3, 2, 25, 33355, 25);
        pointsOf(3, 2, 25, 33335, 0);
        pointsOf(3, 1, 25, 33124, 25);
        pointsOf(3, 1, 25, 12345, 0);
        pointsOf(3, 1, 25, 33355, 25);
        pointsOf(3, 3, 25, 33355, 0);
        pointsOf(4, 1, 8, 22222, 8);
        pointsOf(4, 1, 8, 22223, 0);
        pointsOf(4, 2, 8, 22233, 8);
        pointsOf(4, 2, 8, 22234, 0);
        pointsOf(4, 5, 8, 13456, 8);
        pointsOf(4, 6, 8, 13456, 0);
        pointsOf(5, 3, 30, 66666, 60);
        pointsOf(5, 3, 0, 11111, 5);
        FiveDice x = game(3, 4, 2, 0, 6, 0, 2, 3, 30, 2, 5, 30);
        due(18, "points of a side that there is not", x.points(0, 444), 0);
        due(18, "points of 3 dice", x.points(1, 342), 30);
        due(18, "points of a run longer than the sides", x.points(2, 342), 0);
        int[] outside = {0, 44, 4444, 445, 544, 440, 404, -444, Integer.MAX_VALUE, Integer.MIN_VALUE};
        for (int heap : outside) due(18, "points of " + heap, x.points(0, heap), FiveDice.OUTSIDE);
        due(18, "points in no row", x.points(3, 444), FiveDice.UNKNOWN);
        due(18, "points in no row of nonsense", x.points(-1, 7), FiveDice.UNKNOWN);
        due(18, "points in row min", x.points(Integer.MIN_VALUE, 444), FiveDice.UNKNOWN);
        due(18, "points in row max", x.points(Integer.MAX_VALUE, 444), FiveDice.UNKNOWN);
        x.begin();
        x.fall(234);
        x.fill(1);
        due(18, "points in a filled row", x.points(1, 432), 30);
        x.end();
        due(18, "points, ended", x.points(1, 432), FiveDice.UNKNOWN);
    }

    private static void ways() {
        FiveDice x = new FiveDice();
        due(19, "ways(66666)", x.ways(66666), 1);
        due(19, "ways(66665)", x.ways(66665), 5);
        due(19, "ways(66655)", x.ways(66655), 10);
        due(19, "ways(66654)", x.ways(66654), 20);
        due(19, "ways(45645)", x.ways(45645), 30);
        due(19, "ways(66543)", x.ways(66543), 60);
        due(19, "ways(65432)", x.ways(65432), 120);
        int[] outside = {0, 6666, 666666, 66667, 66660, 60666, -66666, Integer.MAX_VALUE, Integer.MIN_VALUE};
        for (int heap : outside) due(19, "ways(" + heap + ")", x.ways(heap), FiveDice.OUTSIDE);
        x.dice(2, 3, 1);
        due(19, "ways(32)", x.ways(32), 2);
        due(19, "ways(33)", x.ways(33), 1);
        due(19, "ways(34)", x.ways(34), FiveDice.OUTSIDE);
        x.dice(1, 2, 1);
        due(19, "ways(2)", x.ways(2), 1);
        due(19, "ways(0)", x.ways(0), FiveDice.OUTSIDE);
        for (int d = 1; d <= 5; d++) {
            for (int s = 2; s <= 6; s++) due(19, "all ways of " + d + " dice", allWays(d, s), Math.round(Math.pow(s, d)));
        }
    }

    private static int allWays(int d, int s) {
        FiveDice x = game(d, s, 1);
        int all = 0;
        int calls = 1;
        for (int heap = 0; heap < 100000; heap++) {
            if (!rises(heap)) continue;
            // What an object answers behind its 512th call is free.
            if (calls == 500) {
                x = game(d, s, 1);
                calls = 1;
            }
            all += Math.max(0, x.ways(heap));
            calls++;
        }
        return all;
    }

    private static boolean rises(int number) {
        for (int rest = number; rest >= 10; rest /= 10) {
            if (rest % 10 < rest / 10 % 10) return false;
        }
        return true;
    }

    private static void filled() {
        FiveDice x = game(1, 6, 1, 0, 6, 0, 5, 1, 0);
        due(20, "filled, not begun", x.filled(0), FiveDice.NONE);
        due(20, "filled(2)", x.filled(2), FiveDice.UNKNOWN);
        due(20, "filled(-1)", x.filled(-1), FiveDice.UNKNOWN);
        due(20, "filled(min)", x.filled(Integer.MIN_VALUE), FiveDice.UNKNOWN);
        due(20, "filled(max)", x.filled(Integer.MAX_VALUE), FiveDice.UNKNOWN);
        x.begin();
        x.fall(5);
        due(20, "filled, not yet", x.filled(0), FiveDice.NONE);
        x.fill(0);
        due(20, "filled with 0", x.filled(0), 0);
        due(20, "filled, not yet", x.filled(1), FiveDice.NONE);
        x.fall(4);
        x.fill(1);
        due(20, "filled with 4", x.filled(1), 4);
    }

    private static void counts() {
        FiveDice x = game(2, 5, 3, 5, 1, 0, 5, 1, 0);
        counts(21, x, 2, 5, 3, 2, 0, 0, 0, 0, 0, 0);
        x.begin();
        counts(21, x, 2, 5, 3, 2, 0, 0, 0, 3, 2, 1);
        x.fall(52);
        counts(21, x, 2, 5, 3, 2, 0, 0, 25, 2, 0, 1);
        x.hold(5);
        counts(21, x, 2, 5, 3, 2, 0, 0, 5, 2, 1, 1);
        x.fall(1);
        counts(21, x, 2, 5, 3, 2, 0, 0, 15, 1, 0, 1);
        x.hold(15);
        counts(21, x, 2, 5, 3, 2, 0, 0, 15, 0, 0, 1);
        x.fill(1);
        counts(21, x, 2, 5, 3, 2, 1, 6, 0, 3, 2, 1);
        x.fall(55);
        x.fill(0);
        counts(21, x, 2, 5, 3, 2, 2, 16, 0, 0, 0, 1);
        due(21, "count(-1)", x.count(-1), FiveDice.OUTSIDE);
        due(21, "count(10)", x.count(10), FiveDice.OUTSIDE);
        due(21, "count(min)", x.count(Integer.MIN_VALUE), FiveDice.OUTSIDE);
        due(21, "count(max)", x.count(Integer.MAX_VALUE), FiveDice.OUTSIDE);
    }

    private static void refusedChangesNothing() {
        FiveDice x = begun(2, 6, 2, 0, 6, 0, 5, 1, 0);
        x.fall(61);
        long worth = x.worth();
        long luck = x.luck();
        x.dice(1, 2, 1);
        x.row(0, 1, 0);
        x.begin();
        x.fall(11);
        x.draw(5);
        x.hold(2);
        x.fill(2);
        x.chance(20);
        x.worthOf(0);
        x.bestHold();
        x.bestRow();
        x.points(0, 44);
        x.ways(55);
        counts(8, x, 2, 6, 2, 2, 0, 0, 16, 1, 0, 1);
        due(11, "worth behind refused calls", x.worth(), worth);
        due(16, "luck behind refused calls", x.luck(), luck);
        due(17, "slip behind refused calls", x.slip(), 0);
    }
}
