/** The rate by the lowest four bits, what is rounded up (requirements), and what it does to cover. */
public final class RoundingEdgeTest {
    private static final Check CHECK = new Check("RoundingEdgeTest");

    /** Argument of the constructor, mark, quantity, and RATE * MARK * exposure / 10000 rounded up. */
    private static final int[][] REQUIREMENTS = {
        {0, 1, 1, 1}, {0, 1, 2, 1}, {0, 1, 19, 1}, {0, 1, 20, 1}, {0, 1, 21, 2}, {0, 1, 39, 2}, {0, 1, 40, 2},
        {0, 1, 41, 3}, {0, 19, 1, 1}, {0, 20, 1, 1}, {0, 21, 1, 2}, {0, 1000, 1, 50}, {0, 999, 1, 50}, {0, 981, 1, 50},
        {0, 980, 1, 49}, {0, 1000, 50, 2500}, {0, 999, 50, 2498}, {0, 998, 50, 2495},
        {2, 1, 14, 1}, {2, 1, 15, 2}, {2, 99, 1, 7}, {2, 100, 1, 7}, {2, 101, 1, 8}, {2, 1000, 49, 3430},
        {5, 1, 9, 1}, {5, 1, 10, 1}, {5, 1, 11, 2}, {5, 1000, 50, 5000},
        {14, 1, 5, 1}, {14, 1, 6, 2}, {14, 100, 1, 19}, {14, 101, 1, 20}, {14, 99, 1, 19},
        {15, 1, 1, 1}, {15, 1, 4, 1}, {15, 1, 5, 1}, {15, 1, 6, 2}, {15, 1000, 50, 10000}, {15, 999, 49, 9791},
    };

    public static void main(String[] args) {
        rateByTheLowestFourBits();
        requirementsAreRoundedUp();
        requirementsOfPositionsAreRoundedUp();
        contractsAreRoundedApart();
        coverByARoundedRequirement();
        CHECK.end();
    }

    /** "RATE is 500 + 100 times the lowest four bits of the constructor's argument." */
    private static void rateByTheLowestFourBits() {
        for (int argument = -50; argument <= 50; argument++) {
            rateIs(argument, 500 + 100 * Math.floorMod(argument, 16));
        }
        int[][] far = {
            {Integer.MIN_VALUE, 500}, {Integer.MIN_VALUE + 1, 600}, {Integer.MIN_VALUE + 15, 2000},
            {Integer.MIN_VALUE + 16, 500}, {Integer.MAX_VALUE, 2000}, {Integer.MAX_VALUE - 1, 1900},
            {Integer.MAX_VALUE - 15, 500}, {Integer.MAX_VALUE - 16, 2000}, {255, 2000}, {256, 500}, {65535, 2000},
            {65536, 500}, {-256, 500}, {-255, 600}, {-65537, 2000}, {1000, 1300}, {-1000, 1300},
        };
        for (int[] pair : far) {
            rateIs(pair[0], pair[1]);
        }
    }

    /** 10 at the mark of 100 require a tenth of RATE. */
    private static void rateIs(int argument, int rate) {
        ClearedExchange x = new ClearedExchange(argument);
        x.deposit(0, 1000);
        x.order(0, 0, true, Setup.LIMIT, 1, 10);
        CHECK.due("spare with the argument " + argument, x.spare(0), 1000 - rate / 10);
    }

    /** "RATE * MARK * exposure / 10000, each rounded up". */
    private static void requirementsAreRoundedUp() {
        for (int[] row : REQUIREMENTS) {
            for (int contract = 0; contract < 2; contract++) {
                for (int side = 0; side < 2; side++) {
                    ClearedExchange x = new ClearedExchange(row[0]);
                    x.deposit(0, 20000);
                    x.settle(contract == 0 ? row[1] : 500, contract == 1 ? row[1] : 500);
                    x.order(0, contract, side == 1, Setup.LIMIT, 100, row[2]);
                    String what = "argument " + row[0] + ", mark " + row[1] + ", quantity " + row[2];
                    CHECK.due(what, 20000 - x.spare(0), row[3]);
                }
            }
        }
    }

    /** The exposure of a position is never below 0, so that a short one is not rounded down. */
    private static void requirementsOfPositionsAreRoundedUp() {
        for (int[] row : REQUIREMENTS) {
            ClearedExchange x = new ClearedExchange(row[0]);
            x.deposit(0, 20000);
            x.deposit(1, 20000);
            x.settle(row[1], 100);
            x.order(0, 0, true, Setup.LIMIT, row[1], row[2]);
            x.order(1, 0, false, Setup.LIMIT, row[1], row[2]);
            x.open(0);
            CHECK.due("position", x.position(1, 0), -row[2]);
            CHECK.due("requirement of what was bought", 20000 - x.spare(0), row[3]);
            CHECK.due("requirement of what was sold", 20000 - x.spare(1), row[3]);
        }
    }

    /** "The sum, over the contracts, .. each rounded up". */
    private static void contractsAreRoundedApart() {
        int[][] rows = {{1, 1, 2}, {10, 10, 2}, {19, 1, 2}, {20, 20, 2}, {20, 1, 2}, {21, 19, 3}, {21, 21, 4}};
        for (int[] row : rows) {
            ClearedExchange x = Setup.inCall(100);
            x.settle(1, 1);
            x.order(0, 0, true, Setup.LIMIT, 100, row[0]);
            x.order(0, 1, false, Setup.LIMIT, 100, row[1]);
            CHECK.due(row[0] + " and " + row[1] + " at the mark of 1", 100 - x.spare(0), row[2]);
        }
    }

    /** 21 at the mark of 1 are 1.05, which 1 does not cover. */
    private static void coverByARoundedRequirement() {
        for (int quantity = 19; quantity <= 21; quantity++) {
            ClearedExchange x = Setup.inCall(1);
            x.settle(1, 1);
            int due = quantity <= 20 ? 1 : -5;
            CHECK.due(quantity + " with 1", x.order(0, 0, true, Setup.LIMIT, 100, quantity), due);
            ClearedExchange y = Setup.inCall(2);
            y.settle(1, 1);
            y.order(0, 0, true, Setup.LIMIT, 100, quantity);
            CHECK.due("withdraw 1 of 2 beside " + quantity, y.withdraw(0, 1), quantity <= 20 ? 0 : -5);
        }
    }
}
