import java.lang.management.ManagementFactory;
import java.math.BigInteger;
import java.util.Random;

/** Games of every size: those that are not LARGE begin, come to their sum, take little room; none throws. */
public final class FiveDiceRoom {
    private static int wrong = 0;

    private static void due(String what, long got, long want) {
        if (got != want) {
            wrong++;
            System.out.println(what + " answered " + got + ", due is " + want);
        }
    }

    public static void main(String[] args) {
        everySize();
        roomOfChances();
        roomOfManyGames();
        roomOfNewObjects();
        neverThrows();
        System.out.println(wrong == 0 ? "all games come to their sum, in little room" : wrong + " faults");
        if (wrong != 0) System.exit(1);
    }

    private static void everySize() {
        Random random = new Random(5);
        FiveDice x = new FiveDice();
        int calls = 0;
        for (int d = 1; d <= 5; d++) {
            for (int s = 2; s <= 6; s++) {
                for (int t = 1; t <= 3; t++) {
                    for (int rows = 1; rows <= 8; rows++) {
                        // A game takes 260 calls at most, and 512 is all that is promised.
                        if (calls > 250) {
                            x = new FiveDice();
                            calls = 0;
                        }
                        calls += tryGame(x, d, s, t, rows, random);
                    }
                }
            }
        }
    }

    /** How many calls it took. */
    private static int tryGame(FiveDice x, int d, int s, int t, int rows, Random random) {
        String size = d + " dice of " + s + " sides, " + t + " throws, " + rows + " rows: ";
        x.dice(d, s, t);
        for (int i = 0; i < rows; i++) x.row(random.nextInt(6), 1 + random.nextInt(s), random.nextInt(31));
        BigInteger unit = BigInteger.valueOf(s).pow(d * t * rows);
        if (unit.compareTo(BigInteger.TEN.pow(15)) > 0) {
            due(size + "begin", x.begin(), FiveDice.LARGE);
            x.end();
            return rows + 3;
        }
        due(size + "begin", x.begin(), 1);
        due(size + "unit", x.unit(), unit.longValueExact());
        due(size + "chance of 0", x.chance(0), unit.longValueExact());
        due(size + "chance of 500", x.chance(500), 0);
        long atFirst = x.worth();
        int calls = 0;
        while (x.count(4) < rows) {
            calls += playTurn(x, size, rows, random);
        }
        due(size + "the end", atFirst + x.luck() - x.slip(), x.count(5) * unit.longValueExact());
        due(size + "chance at the end", x.chance(Math.min(500, x.count(5))), 1);
        x.end();
        return calls + rows + 12;
    }

    private static int playTurn(FiveDice x, String size, int rows, Random random) {
        int calls = 1;
        x.draw(random.nextInt());
        while (x.count(7) > 0 && random.nextInt(5) > 0) {
            int best = x.bestHold();
            due(size + "worth of the best hold", x.worthOf(best), x.worth());
            long chance = x.chance(x.count(5) + 10);
            if (chance < 0 || chance > x.unit()) due(size + "chance in a turn", chance, x.unit());
            x.hold(random.nextInt(3) == 0 ? 0 : best);
            x.draw(random.nextInt());
            calls += 8;
        }
        long slip = x.slip();
        boolean last = x.count(7) == 0;
        int row = x.bestRow();
        if (x.fill(row) < 0) due(size + "fill of the best row", row, 0);
        if (last) due(size + "slip of the best row", x.slip() - slip, 0);
        return calls + 12;
    }

    private static long allocated() {
        return ((com.sun.management.ThreadMXBean) ManagementFactory.getThreadMXBean())
            .getThreadAllocatedBytes(Thread.currentThread().getId());
    }

    /** 7.3 million elements are the room of a run; a part of it, at 8 bytes each, is plenty. */
    private static void dueRoom(String what, long before, long elements) {
        long bytes = allocated() - before;
        if (bytes > 8 * elements) due(what + ": bytes", bytes, 8 * elements);
    }

    private static void roomOfChances() {
        long before = allocated();
        FiveDice x = new FiveDice();
        x.dice(3, 4, 1);
        for (int i = 0; i < 8; i++) x.row(i < 4 ? 1 : 2, 2, 30 - i);
        x.begin();
        for (int i = 0; i < 500; i++) x.chance(i);
        dueRoom("many chances", before, 100000);
    }

    private static void roomOfManyGames() {
        long before = allocated();
        FiveDice x = new FiveDice();
        for (int i = 0; i < 100; i++) {
            x.dice(1 + i % 5, 2 + i % 4, 1);
            x.row(i % 6, 1 + i % 3, i % 31);
            x.begin();
            x.chance(i);
            x.end();
        }
        dueRoom("many games", before, 100000);
    }

    private static void roomOfNewObjects() {
        long before = allocated();
        long told = 0;
        for (int i = 0; i < 40; i++) {
            FiveDice x = new FiveDice();
            x.dice(2, 2, 3);
            for (int k = 0; k < 8; k++) x.row(2, 2, 30);
            x.begin();
            told += x.chance(240);
        }
        due("chances of 40 games", told, 40 * oneChance());
        dueRoom("forty objects", before, 2000000);
    }

    /** Both sides are shown with 7 of 8 by three throws, as one die is held; 56 of 64 in each turn. */
    private static long oneChance() {
        long all = 1;
        for (int i = 0; i < 8; i++) all *= 56;
        return all;
    }

    /** Behind the 512th call answers are free, and are not looked at here; but no call may throw there either. */
    private static void neverThrows() {
        Random random = new Random(11);
        FiveDice x = new FiveDice();
        for (int i = 0; i < 40000; i++) {
            try {
                anyCall(x, random);
                // A game that has come to its end would refuse all that follows.
                if (x.count(9) == 1 && x.count(4) == x.count(3)) x.end();
            } catch (RuntimeException e) {
                due("call " + i + " threw " + e, 1, 0);
                return;
            }
        }
    }

    private static long anyCall(FiveDice x, Random random) {
        int a = anyNumber(x, random);
        switch (random.nextInt(20)) {
            case 0: return x.dice(1 + random.nextInt(5), 2 + random.nextInt(5), 1 + random.nextInt(3));
            case 1: return x.dice(a, anyNumber(x, random), anyNumber(x, random));
            case 2: return x.row(random.nextInt(6), 1 + random.nextInt(6), random.nextInt(31));
            case 3: return x.row(a, anyNumber(x, random), anyNumber(x, random));
            case 4: return x.begin();
            case 5: return random.nextInt(60) == 0 ? x.end() : 0;
            case 6: return x.fall(a);
            case 7: return x.draw(a);
            case 8: return x.hold(a);
            case 9: return x.hold(x.bestHold());
            case 10: return x.fill(a);
            case 11: return x.fill(x.bestRow());
            case 12: return x.worth() + x.unit();
            case 13: return x.worthOf(a);
            case 14: return x.chance(a);
            case 15: return x.chance(random.nextInt(60));
            case 16: return x.points(random.nextInt(9), a) + x.ways(a);
            case 17: return x.filled(a);
            case 18: return x.luck() + x.slip();
            default: return x.count(a);
        }
    }

    private static int anyNumber(FiveDice x, Random random) {
        switch (random.nextInt(6)) {
            case 0: return random.nextInt(11) - 1;
            case 1: return random.nextInt();
            case 2: return x.count(6);
            case 3: return x.count(6) / 10;
            case 4: return random.nextBoolean() ? Integer.MIN_VALUE : Integer.MAX_VALUE;
            default: return 11111 % (int) Math.pow(10, random.nextInt(7)) * (1 + random.nextInt(6));
        }
    }
}
