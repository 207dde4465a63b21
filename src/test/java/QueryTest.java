/** Promises 18, 19, 22 to 24, 27 and 28: what the books and the trades tell. */
public final class QueryTest {
    private static final Check CHECK = new Check("QueryTest");

    public static void main(String[] args) {
        bestAndVolume();
        positionsAndCosts();
        tradesAreKeptToSixteen();
        tradeFields();
        CHECK.end();
    }

    private static void bestAndVolume() {
        ClearedExchange x = Setup.opened(10000);
        x.order(0, 0, true, Setup.LIMIT, 90, 3);
        x.order(1, 0, true, Setup.LIMIT, 95, 4);
        x.order(2, 0, true, Setup.LIMIT, 95, 5);
        x.order(0, 0, false, Setup.LIMIT, 110, 6);
        x.order(1, 0, false, Setup.LIMIT, 105, 7);
        x.order(1, 0, false, Setup.STOP, 50, 9);
        x.order(1, 0, true, Setup.STOP, 200, 9);
        CHECK.due("best buy", x.best(0, true), 95);
        CHECK.due("best sell", x.best(0, false), 105);
        CHECK.due("best of the other contract", x.best(1, true), 0);
        CHECK.due("volume of two", x.volume(0, true, 95), 9);
        CHECK.due("volume of one", x.volume(0, true, 90), 3);
        CHECK.due("volume of the other side", x.volume(0, false, 95), 0);
        CHECK.due("volume between", x.volume(0, true, 92), 0);
        CHECK.due("volume of a sell", x.volume(0, false, 110), 6);
        CHECK.due("stops do not rest", x.volume(0, false, 50) + x.volume(0, true, 200), 0);
        CHECK.due("volume of the other contract", x.volume(1, true, 95), 0);
        for (int price : new int[] {0, -1, 1001, Integer.MIN_VALUE, Integer.MAX_VALUE}) {
            CHECK.due("volume at no price", x.volume(0, true, price), 0);
        }
        x.order(3, 0, false, Setup.IMMEDIATE, 95, 6);
        CHECK.due("volume after a trade", x.volume(0, true, 95), 3);
        x.cancel(3);
        CHECK.due("best after a cancel", x.best(0, true), 90);
        for (int contract : new int[] {-1, 2}) {
            CHECK.due("best of none", x.best(contract, true), -1);
            CHECK.due("volume of none", x.volume(contract, true, 95), -1);
        }
    }

    private static void positionsAndCosts() {
        ClearedExchange x = Setup.opened(10000);
        x.order(0, 1, true, Setup.LIMIT, 90, 3);
        x.order(1, 1, false, Setup.LIMIT, 90, 3);
        x.order(1, 1, true, Setup.LIMIT, 80, 5);
        x.order(0, 1, false, Setup.LIMIT, 80, 5);
        CHECK.due("position of 0", x.position(0, 1), -2);
        CHECK.due("cost of 0", x.cost(0, 1), 270 - 400);
        CHECK.due("position of 1", x.position(1, 1), 2);
        CHECK.due("cost of 1", x.cost(1, 1), 400 - 270);
        CHECK.due("position in the other contract", x.position(0, 0), 0);
        CHECK.due("cost in the other contract", x.cost(0, 0), 0);
        CHECK.due("position of the house", x.position(4, 1), 0);
        CHECK.due("last", x.last(1), 80);
    }

    private static void tradesAreKeptToSixteen() {
        ClearedExchange x = Setup.opened(10000);
        for (int i = 1; i <= 20; i++) {
            x.order(0, 0, true, Setup.LIMIT, 100 + i, 1);
            x.order(1, 0, false, Setup.LIMIT, 100 + i, 1);
            CHECK.due("trades", x.trades(), i);
            CHECK.due("the latest", x.trade(0, 3), 100 + i);
            CHECK.due("the oldest kept", x.trade(Math.min(i, 16) - 1, 3), 100 + Math.max(1, i - 15));
            CHECK.due("none before it", x.trade(Math.min(i, 16), 3), -1);
        }
        for (int k = 0; k < 16; k++) {
            CHECK.due("trade " + k, x.trade(k, 3), 120 - k);
        }
        CHECK.due("the 17th latest is not kept", x.trade(16, 3), -1);
    }

    private static void tradeFields() {
        ClearedExchange x = Setup.opened(10000);
        x.order(2, 1, true, Setup.LIMIT, 77, 9);
        x.order(3, 1, false, Setup.LIMIT, 70, 4);
        int[] fields = {2, 3, 1, 77, 4};
        for (int w = 0; w < 5; w++) {
            CHECK.due("field " + w, x.trade(0, w), fields[w]);
        }
        CHECK.due("w -1", x.trade(0, -1), -1);
        CHECK.due("w 5", x.trade(0, 5), -1);
        CHECK.due("k -1", x.trade(-1, 0), -1);
        CHECK.due("k 1", x.trade(1, 0), -1);
        CHECK.due("k far below", x.trade(Integer.MIN_VALUE, 0), -1);
        CHECK.due("k far above", x.trade(Integer.MAX_VALUE, 0), -1);
    }
}
