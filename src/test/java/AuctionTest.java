/** Promises 8, 9, 24 and 25: the phases and the auction. */
public final class AuctionTest {
    private static final Check CHECK = new Check("AuctionTest");

    public static void main(String[] args) {
        phases();
        noVolume();
        greatestVolume();
        leastDifference();
        nearestToMark();
        lowest();
        bestMeetsBest();
        memberMeetsItself();
        otherOrdersAreNotIn();
        reopens();
        CHECK.end();
    }

    /** Orders of contract 0: each row a member, 1 for a buy, a price and a quantity. */
    private static ClearedExchange book(int[][] rows) {
        ClearedExchange x = Setup.inCall(100000);
        for (int[] row : rows) {
            x.order(row[0], 0, row[1] == 1, Setup.LIMIT, row[2], row[3]);
        }
        return x;
    }

    private static void phases() {
        ClearedExchange x = new ClearedExchange(0);
        CHECK.due("call in CALL", x.call(1), 0);
        CHECK.due("open", x.open(1), 0);
        CHECK.due("phase", x.phase(1), 1);
        CHECK.due("phase of the other", x.phase(0), 0);
        CHECK.due("open when OPEN", x.open(1), -3);
        CHECK.due("still OPEN", x.phase(1), 1);
        CHECK.due("call", x.call(1), 1);
        CHECK.due("phase", x.phase(1), 0);
        CHECK.due("call again", x.call(1), 0);
        CHECK.due("messages", x.messages(), 5);
        for (int contract : new int[] {-1, 2, Integer.MAX_VALUE}) {
            CHECK.due("call of none", x.call(contract), -1);
            CHECK.due("open of none", x.open(contract), -1);
            CHECK.due("phase of none", x.phase(contract), -1);
            CHECK.due("last of none", x.last(contract), -1);
        }
        CHECK.due("messages", x.messages(), 5);
    }

    private static void noVolume() {
        ClearedExchange x = book(new int[][] {{0, 1, 99, 5}, {1, 0, 100, 5}});
        CHECK.due("open", x.open(0), 0);
        CHECK.due("phase", x.phase(0), 1);
        CHECK.due("last", x.last(0), 0);
        CHECK.due("the buy rests", x.best(0, true), 99);
        CHECK.due("the sell rests", x.best(0, false), 100);
        ClearedExchange y = book(new int[][] {{0, 1, 99, 5}});
        CHECK.due("one side alone", y.open(0), 0);
        CHECK.due("last", y.last(0), 0);
    }

    private static void greatestVolume() {
        // At 90 3 could be traded, at 95 7, at 110 5.
        ClearedExchange x = book(new int[][] {
            {0, 1, 110, 5}, {1, 1, 95, 2}, {2, 0, 90, 3}, {3, 0, 95, 6}});
        CHECK.due("open", x.open(0), 3);
        CHECK.due("price", x.last(0), 95);
        CHECK.due("left of the sell", x.state(4, 0), 2);
    }

    private static void leastDifference() {
        // 5 at two prices: at 99 demand is 9 and supply 5, at 101 both are 5.
        ClearedExchange x = book(new int[][] {
            {0, 1, 101, 5}, {1, 1, 99, 4}, {2, 0, 99, 5}, {3, 0, 103, 3}});
        CHECK.due("open", x.open(0), 1);
        CHECK.due("price", x.last(0), 101);
        // The mark is nearer to the other price, but the difference counts first.
        ClearedExchange y = book(new int[][] {
            {0, 1, 110, 5}, {1, 1, 100, 1}, {2, 0, 100, 5}});
        CHECK.due("open", y.open(0), 1);
        CHECK.due("price", y.last(0), 110);
    }

    private static void nearestToMark() {
        ClearedExchange x = book(new int[][] {{0, 1, 104, 5}, {1, 0, 97, 5}});
        CHECK.due("open", x.open(0), 1);
        CHECK.due("nearest to 100", x.last(0), 97);
        ClearedExchange y = book(new int[][] {{0, 1, 102, 5}, {1, 0, 97, 5}});
        CHECK.due("open", y.open(0), 1);
        CHECK.due("nearest to 100", y.last(0), 102);
        ClearedExchange z = book(new int[][] {{0, 1, 104, 5}, {1, 0, 97, 5}});
        z.settle(103, 100);
        z.open(0);
        CHECK.due("nearest to 103", z.last(0), 104);
    }

    private static void lowest() {
        ClearedExchange x = book(new int[][] {{0, 1, 103, 5}, {1, 0, 97, 5}});
        CHECK.due("open", x.open(0), 1);
        CHECK.due("the lowest of two as near", x.last(0), 97);
        ClearedExchange y = book(new int[][] {{1, 0, 97, 5}, {0, 1, 103, 5}});
        CHECK.due("open", y.open(0), 1);
        CHECK.due("the order of taking does not matter", y.last(0), 97);
    }

    private static void bestMeetsBest() {
        ClearedExchange x = book(new int[][] {
            {0, 1, 100, 4}, {1, 1, 105, 3}, {0, 1, 105, 2}, {2, 0, 95, 1}, {3, 0, 90, 5}, {2, 0, 90, 1}});
        CHECK.due("open", x.open(0), 4);
        int[][] trades = {{1, 3, 3}, {0, 3, 2}, {0, 2, 1}, {0, 2, 1}};
        for (int i = 0; i < trades.length; i++) {
            int k = trades.length - 1 - i;
            CHECK.due("buyer of " + i, x.trade(k, 0), trades[i][0]);
            CHECK.due("seller of " + i, x.trade(k, 1), trades[i][1]);
            CHECK.due("contract of " + i, x.trade(k, 2), 0);
            CHECK.due("price of " + i, x.trade(k, 3), 100);
            CHECK.due("quantity of " + i, x.trade(k, 4), trades[i][2]);
        }
        CHECK.due("left", x.state(1, 0), 2);
        CHECK.due("it rests", x.state(1, 1), 0);
        CHECK.due("cost at the one price", x.cost(1, 0), 300);
    }

    private static void memberMeetsItself() {
        ClearedExchange x = book(new int[][] {{2, 1, 100, 4}, {2, 0, 100, 4}});
        CHECK.due("open", x.open(0), 1);
        CHECK.due("trades", x.trades(), 1);
        CHECK.due("buyer", x.trade(0, 0), 2);
        CHECK.due("seller", x.trade(0, 1), 2);
        CHECK.due("position", x.position(2, 0), 0);
        CHECK.due("cost", x.cost(2, 0), 0);
        CHECK.due("last", x.last(0), 100);
        CHECK.due("nothing lapsed", x.state(1, 0), 0);
    }

    private static void otherOrdersAreNotIn() {
        ClearedExchange x = book(new int[][] {{0, 1, 100, 4}, {1, 0, 100, 1}});
        x.order(2, 1, false, Setup.LIMIT, 50, 9);
        x.order(2, 0, false, Setup.STOP, 1, 9);
        x.order(3, 0, false, Setup.LIMIT, 100, 2);
        x.cancel(5);
        CHECK.due("orders of the other contract, stops and done ones stay out", x.open(0), 1);
        CHECK.due("quantity", x.trade(0, 4), 1);
        CHECK.due("phase of the other contract", x.phase(1), 0);
    }

    private static void reopens() {
        ClearedExchange x = book(new int[][] {{0, 1, 98, 4}});
        x.open(0);
        x.call(0);
        x.order(1, 0, false, Setup.LIMIT, 97, 3);
        CHECK.due("no trade in CALL", x.trades(), 0);
        CHECK.due("resting orders stay over a call", x.open(0), 1);
        CHECK.due("price by the difference", x.last(0), 98);
    }
}
