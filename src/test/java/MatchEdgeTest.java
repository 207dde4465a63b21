/** The terms' own edges in matching, stops and auctions: prices just not, just and more than allowed, and ties. */
public final class MatchEdgeTest {
    private static final Check CHECK = new Check("MatchEdgeTest");

    public static void main(String[] args) {
        buyPrices();
        sellPrices();
        endsOfThePrices();
        marketPrices();
        quantities();
        nothingLeftIsDone();
        samePriceByNumber();
        sameMember();
        sameMemberLast();
        buyStopPrices();
        sellStopPrices();
        endsOfTheStopPrices();
        stopsMeetEveryPrice();
        stopsByThePhase();
        auctionPricesOrHigher();
        auctionByVolume();
        auctionByDifference();
        auctionByMark();
        auctionByTheLowest();
        auctionPricesOfRestingOrders();
        auctionQuantities();
        auctionSamePriceByNumber();
        phases();
        CHECK.end();
    }

    /** "If the order's price allows it (a buy's is not lower ..)". */
    private static void buyPrices() {
        for (int kind : new int[] {Setup.LIMIT, Setup.IMMEDIATE}) {
            for (int price = 99; price <= 101; price++) {
                ClearedExchange x = Setup.opened(1000);
                x.order(1, 0, false, Setup.LIMIT, 100, 5);
                CHECK.due("buy", x.order(0, 0, true, kind, price, 5), 2);
                CHECK.due("trades by a buy at " + price, x.trades(), price < 100 ? 0 : 1);
                CHECK.due("at the resting price", x.last(0), price < 100 ? 0 : 100);
                CHECK.due("left", x.state(2, 0), price < 100 ? 5 : 0);
                CHECK.due("state", x.state(2, 1), price < 100 && kind == Setup.LIMIT ? 0 : 2);
            }
        }
    }

    /** "(.. a sell's not higher)". */
    private static void sellPrices() {
        for (int kind : new int[] {Setup.LIMIT, Setup.IMMEDIATE}) {
            for (int price = 99; price <= 101; price++) {
                ClearedExchange x = Setup.opened(1000);
                x.order(1, 0, true, Setup.LIMIT, 100, 5);
                CHECK.due("sell", x.order(0, 0, false, kind, price, 5), 2);
                CHECK.due("trades by a sell at " + price, x.trades(), price > 100 ? 0 : 1);
                CHECK.due("at the resting price", x.last(0), price > 100 ? 0 : 100);
                CHECK.due("left", x.state(2, 0), price > 100 ? 5 : 0);
                CHECK.due("state", x.state(2, 1), price > 100 && kind == Setup.LIMIT ? 0 : 2);
            }
        }
    }

    private static void endsOfThePrices() {
        for (int price : new int[] {1, 1000}) {
            for (int side = 0; side < 2; side++) {
                ClearedExchange x = Setup.opened(1000);
                x.order(1, 0, side == 1, Setup.LIMIT, price, 5);
                x.order(0, 0, side == 0, Setup.LIMIT, price, 5);
                CHECK.due("trades at " + price, x.trades(), 1);
                CHECK.due("last", x.last(0), price);
            }
        }
        ClearedExchange y = Setup.opened(1000);
        y.order(1, 0, true, Setup.LIMIT, 1, 5);
        y.order(0, 0, false, Setup.LIMIT, 2, 5);
        y.order(1, 1, true, Setup.LIMIT, 999, 5);
        y.order(0, 1, false, Setup.LIMIT, 1000, 5);
        CHECK.due("no trades one beside the ends", y.trades(), 0);
    }

    /** "MARKET allows every price", "its own means nothing". */
    private static void marketPrices() {
        for (int own : new int[] {1, 2, 500, 999, 1000}) {
            for (int resting : new int[] {1, 2, 999, 1000}) {
                for (int side = 0; side < 2; side++) {
                    ClearedExchange x = Setup.opened(1000);
                    x.order(1, 0, side == 1, Setup.LIMIT, resting, 5);
                    x.order(0, 0, side == 0, Setup.MARKET, own, 5);
                    CHECK.due("MARKET at " + own + " meets " + resting, x.last(0), resting);
                    CHECK.due("whole", x.state(2, 0), 0);
                }
            }
        }
    }

    /** "As much as both have left". */
    private static void quantities() {
        for (int quantity = 4; quantity <= 6; quantity++) {
            ClearedExchange x = Setup.opened(1000);
            x.order(1, 0, false, Setup.LIMIT, 100, 5);
            x.order(0, 0, true, Setup.LIMIT, 100, quantity);
            CHECK.due("quantity of the trade", x.trade(0, 4), Math.min(quantity, 5));
            CHECK.due("left of what rested", x.state(1, 0), Math.max(0, 5 - quantity));
            CHECK.due("left of what came", x.state(2, 0), Math.max(0, quantity - 5));
            CHECK.due("state of what rested", x.state(1, 1), quantity < 5 ? 0 : 2);
            CHECK.due("state of what came", x.state(2, 1), quantity > 5 ? 0 : 2);
            CHECK.due("sells", x.volume(0, false, 100), Math.max(0, 5 - quantity));
            CHECK.due("buys", x.volume(0, true, 100), Math.max(0, quantity - 5));
        }
    }

    /** "What has nothing left is DONE": what met it does not meet it again. */
    private static void nothingLeftIsDone() {
        ClearedExchange x = Setup.opened(1000);
        x.order(1, 0, false, Setup.LIMIT, 100, 1);
        x.order(2, 0, false, Setup.LIMIT, 100, 1);
        x.order(0, 0, true, Setup.IMMEDIATE, 100, 1);
        x.order(0, 0, true, Setup.IMMEDIATE, 100, 1);
        CHECK.due("first seller", x.trade(1, 1), 1);
        CHECK.due("second seller", x.trade(0, 1), 2);
        x.order(0, 0, true, Setup.IMMEDIATE, 100, 1);
        CHECK.due("no third", x.trades(), 2);
        CHECK.due("no exposure is left", x.spare(1), 1000 - 5);
    }

    /** "Of those with the same price the one that was taken first". */
    private static void samePriceByNumber() {
        ClearedExchange x = Setup.opened(1000);
        x.order(3, 0, false, Setup.LIMIT, 100, 1);
        x.order(1, 0, false, Setup.LIMIT, 100, 1);
        x.order(2, 0, false, Setup.LIMIT, 100, 1);
        x.cancel(1);
        x.order(3, 0, false, Setup.LIMIT, 100, 1);
        x.order(2, 0, false, Setup.LIMIT, 99, 1);
        int[] sellers = {2, 1, 2, 3};
        for (int i = 0; i < sellers.length; i++) {
            x.order(0, 0, true, Setup.IMMEDIATE, 100, 1);
            CHECK.due("seller " + i, x.trade(0, 1), sellers[i]);
        }
    }

    /** "If it is the same member's, it is DONE with nothing else". */
    private static void sameMember() {
        ClearedExchange x = Setup.opened(1000);
        x.order(0, 0, false, Setup.LIMIT, 100, 5);
        CHECK.due("an own order just not allowed", x.order(0, 0, true, Setup.LIMIT, 99, 3), 2);
        CHECK.due("it rests", x.state(1, 1), 0);
        CHECK.due("an own order just allowed", x.order(0, 0, true, Setup.LIMIT, 100, 3), 3);
        CHECK.due("it is done", x.state(1, 1), 2);
        CHECK.due("with all that it had", x.state(1, 0), 5);
        CHECK.due("no trade", x.trades(), 0);
        CHECK.due("last", x.last(0), 0);
        CHECK.due("nothing of the other was used", x.state(3, 0), 3);
        CHECK.due("position", x.position(0, 0), 0);
        CHECK.due("cost", x.cost(0, 0), 0);
    }

    /** What is behind an own order is met too, and an own one is left alone when nothing is left. */
    private static void sameMemberLast() {
        for (int quantity = 2; quantity <= 4; quantity++) {
            ClearedExchange x = Setup.opened(1000);
            x.order(1, 0, false, Setup.LIMIT, 100, 3);
            x.order(0, 0, false, Setup.LIMIT, 100, 5);
            x.order(0, 0, true, Setup.IMMEDIATE, 100, quantity);
            CHECK.due("the own order after " + quantity, x.state(2, 1), quantity == 4 ? 2 : 0);
            CHECK.due("what lapsed", x.state(3, 0), quantity == 4 ? 1 : 0);
        }
    }

    /** Members 2 and 3 trade 1 of contract 0, while a stop of member 1 waits. */
    private static int stopAfterLast(boolean buy, int price, int last) {
        ClearedExchange x = Setup.opened(1000);
        x.order(1, 0, buy, Setup.STOP, price, 1);
        x.order(2, 0, false, Setup.LIMIT, last, 1);
        CHECK.due("it waits without a LAST", x.state(1, 1), 1);
        x.order(3, 0, true, Setup.LIMIT, last, 1);
        return x.state(1, 1);
    }

    /** "LAST is at or above its price (a buy)". */
    private static void buyStopPrices() {
        CHECK.due("a LAST of 499 for a buy at 500", stopAfterLast(true, 500, 499), 1);
        CHECK.due("a LAST of 500 for a buy at 500", stopAfterLast(true, 500, 500), 2);
        CHECK.due("a LAST of 501 for a buy at 500", stopAfterLast(true, 500, 501), 2);
    }

    /** "Or at or below it (a sell)". */
    private static void sellStopPrices() {
        CHECK.due("a LAST of 499 for a sell at 500", stopAfterLast(false, 500, 499), 2);
        CHECK.due("a LAST of 500 for a sell at 500", stopAfterLast(false, 500, 500), 2);
        CHECK.due("a LAST of 501 for a sell at 500", stopAfterLast(false, 500, 501), 1);
    }

    private static void endsOfTheStopPrices() {
        CHECK.due("a LAST of 1 for a buy at 1", stopAfterLast(true, 1, 1), 2);
        CHECK.due("a LAST of 1 for a buy at 2", stopAfterLast(true, 2, 1), 1);
        CHECK.due("a LAST of 1 for a sell at 1", stopAfterLast(false, 1, 1), 2);
        CHECK.due("a LAST of 2 for a sell at 1", stopAfterLast(false, 1, 2), 1);
        CHECK.due("a LAST of 1000 for a buy at 1000", stopAfterLast(true, 1000, 1000), 2);
        CHECK.due("a LAST of 999 for a buy at 1000", stopAfterLast(true, 1000, 999), 1);
        CHECK.due("a LAST of 1000 for a sell at 1000", stopAfterLast(false, 1000, 1000), 2);
        CHECK.due("a LAST of 1000 for a sell at 999", stopAfterLast(false, 999, 1000), 1);
    }

    /** "The one with the least number becomes MARKET": its price allows every price then. */
    private static void stopsMeetEveryPrice() {
        for (int price : new int[] {1, 99, 100, 101, 1000}) {
            for (int side = 0; side < 2; side++) {
                ClearedExchange x = Setup.withPositions(10000);
                x.order(2, 0, side == 0, Setup.LIMIT, price, 3);
                x.order(1, 0, side == 1, Setup.STOP, 100, 4);
                CHECK.due("a stop at 100 meets " + price, x.last(0), price);
                CHECK.due("its rest lapses", x.state(4, 0), 1);
                CHECK.due("it is done", x.state(4, 1), 2);
            }
        }
    }

    /** "The waiting stops of contracts that are OPEN". */
    private static void stopsByThePhase() {
        ClearedExchange x = Setup.withPositions(10000);
        CHECK.due("in its own message when OPEN", x.order(1, 0, true, Setup.STOP, 100, 1), 3);
        CHECK.due("done", x.state(3, 1), 2);
        x.call(0);
        CHECK.due("in CALL", x.order(1, 0, true, Setup.STOP, 100, 1), 4);
        x.call(0);
        x.open(1);
        x.deposit(0, 1);
        CHECK.due("it waits over other messages", x.state(4, 1), 1);
        x.open(0);
        CHECK.due("done when OPEN again", x.state(4, 1), 2);
        CHECK.due("of the contract without a LAST", x.order(1, 1, true, Setup.STOP, 1, 1), 5);
        CHECK.due("waits", x.state(5, 1), 1);
    }

    /** Orders of contract 0, each row a member, 1 for a buy, a price and a quantity. */
    private static ClearedExchange inAuction(int[][] rows) {
        ClearedExchange x = Setup.inCall(100000);
        for (int[] row : rows) {
            x.order(row[0], 0, row[1] == 1, Setup.LIMIT, row[2], row[3]);
        }
        return x;
    }

    /** The answer of open, then LAST. */
    private static void auction(String what, int trades, int last, int[]... rows) {
        ClearedExchange x = inAuction(rows);
        CHECK.due(what + ": trades", x.open(0), trades);
        CHECK.due(what + ": price", x.last(0), last);
        CHECK.due(what + ": phase", x.phase(0), 1);
    }

    /** "DEMAND is what is left of all resting buys at p or higher, SUPPLY that of all resting sells at p or lower". */
    private static void auctionPricesOrHigher() {
        auction("a buy 1 below a sell", 0, 0, new int[] {0, 1, 100, 5}, new int[] {1, 0, 101, 5});
        auction("a buy at a sell", 1, 100, new int[] {0, 1, 100, 5}, new int[] {1, 0, 100, 5});
        auction("a buy 1 above a sell", 1, 100, new int[] {0, 1, 101, 5}, new int[] {1, 0, 100, 5});
        auction("at the ends", 1, 1, new int[] {0, 1, 1000, 5}, new int[] {1, 0, 1, 5});
        auction("at 1", 1, 1, new int[] {0, 1, 1, 5}, new int[] {1, 0, 1, 5});
        auction("at 1000", 1, 1000, new int[] {0, 1, 1000, 5}, new int[] {1, 0, 1000, 5});
    }

    /** "That with the greatest volume is taken": 1 more is enough, against difference and MARK. */
    private static void auctionByVolume() {
        // At 100 4 (of 5 and 4), at 120 5 (of 5 and 50).
        auction("1 more", 2, 120, new int[] {0, 0, 100, 4}, new int[] {1, 1, 120, 5}, new int[] {2, 0, 120, 46});
        // At 100 and at 120 5 (of 14 and 5), so that the MARK decides.
        auction("as much", 1, 100, new int[] {0, 0, 100, 5}, new int[] {1, 1, 120, 14});
    }

    /** "Of several, that with the least difference of demand and supply". */
    private static void auctionByDifference() {
        // At 100 6 and 5, at 120 5 and 5.
        auction("1 less", 1, 120, new int[] {0, 1, 120, 5}, new int[] {1, 1, 100, 1}, new int[] {2, 0, 100, 5});
        // At 80 5 and 5, at 100 5 and 6.
        auction("1 less below", 1, 80, new int[] {0, 1, 100, 5}, new int[] {1, 0, 80, 5}, new int[] {2, 0, 100, 1});
        // At 110 7 and 5, at 120 5 and 7: equal, so that the MARK decides.
        auction("demand over supply as supply over demand", 1, 110, new int[] {0, 1, 120, 5},
                new int[] {1, 1, 110, 2}, new int[] {2, 0, 110, 5}, new int[] {3, 0, 120, 2});
    }

    /** "Then that nearest to MARK": 100 at first. */
    private static void auctionByMark() {
        auction("98 and 101", 1, 101, new int[] {0, 1, 101, 5}, new int[] {1, 0, 98, 5});
        auction("99 and 102", 1, 99, new int[] {0, 1, 102, 5}, new int[] {1, 0, 99, 5});
        auction("100 and 101", 1, 100, new int[] {0, 1, 101, 5}, new int[] {1, 0, 100, 5});
        auction("99 and 100", 1, 100, new int[] {0, 1, 100, 5}, new int[] {1, 0, 99, 5});
        auction("98 taken before 101", 1, 101, new int[] {1, 0, 98, 5}, new int[] {0, 1, 101, 5});
        auction("99 taken before 102", 1, 99, new int[] {1, 0, 99, 5}, new int[] {0, 1, 102, 5});
        int[] last = {200, 200, 202};
        for (int i = 0; i < 3; i++) {
            ClearedExchange x = inAuction(new int[][] {{0, 1, 202, 5}, {1, 0, 200, 5}});
            x.settle(200 + i, 100);
            x.open(0);
            CHECK.due("200 and 202 at a MARK of " + (200 + i), x.last(0), last[i]);
        }
    }

    /** "Then the lowest". */
    private static void auctionByTheLowest() {
        for (int distance : new int[] {1, 2, 99}) {
            int[] buy = {0, 1, 100 + distance, 5};
            int[] sell = {1, 0, 100 - distance, 5};
            auction("as near by " + distance, 1, 100 - distance, buy, sell);
            auction("in the other order", 1, 100 - distance, sell, buy);
        }
    }

    /** "Of all prices of resting orders": neither one between them nor that of a stop or a done order. */
    private static void auctionPricesOfRestingOrders() {
        ClearedExchange x = inAuction(new int[][] {{0, 1, 110, 5}, {1, 0, 80, 5}, {2, 1, 99, 5}});
        x.order(2, 0, true, Setup.STOP, 101, 5);
        x.order(2, 1, true, Setup.LIMIT, 100, 5);
        x.cancel(3);
        CHECK.due("open", x.open(0), 1);
        CHECK.due("110, as the nearest of 80 and 110", x.last(0), 110);
    }

    /** "As much as both have left and the volume still allows". */
    private static void auctionQuantities() {
        for (int quantity = 4; quantity <= 6; quantity++) {
            ClearedExchange x = inAuction(new int[][] {{0, 1, 100, 5}, {1, 0, 100, quantity}});
            CHECK.due("open", x.open(0), 1);
            CHECK.due("quantity", x.trade(0, 4), Math.min(quantity, 5));
            CHECK.due("left of the buy", x.state(1, 0), Math.max(0, 5 - quantity));
            CHECK.due("left of the sell", x.state(2, 0), Math.max(0, quantity - 5));
            CHECK.due("state of the buy", x.state(1, 1), quantity < 5 ? 0 : 2);
            CHECK.due("state of the sell", x.state(2, 1), quantity > 5 ? 0 : 2);
        }
        // The volume at 100 is 6: what is left of the buys has no part in it, though a sell at 105 is there.
        ClearedExchange y = inAuction(new int[][] {
            {0, 1, 110, 4}, {1, 1, 100, 3}, {2, 0, 100, 6}, {3, 0, 105, 1}, {1, 1, 90, 2}});
        CHECK.due("open", y.open(0), 2);
        CHECK.due("price", y.last(0), 100);
        CHECK.due("quantity", y.trade(0, 4), 2);
        CHECK.due("the buy at 100", y.state(2, 0), 1);
        CHECK.due("the sell at 105", y.state(4, 0), 1);
        CHECK.due("the buy at 90", y.state(5, 0), 2);
    }

    private static void auctionSamePriceByNumber() {
        ClearedExchange x = inAuction(new int[][] {{3, 1, 100, 1}, {1, 1, 100, 1}, {2, 0, 100, 1}});
        CHECK.due("open", x.open(0), 1);
        CHECK.due("the buy that was taken first", x.trade(0, 0), 3);
        ClearedExchange y = inAuction(new int[][] {{3, 0, 100, 1}, {1, 0, 100, 1}, {2, 1, 100, 1}});
        CHECK.due("open", y.open(0), 1);
        CHECK.due("the sell that was taken first", y.trade(0, 1), 3);
    }

    /** Promise 8: "A contract that is OPEN is in CALL: 1; 0 when it was." */
    private static void phases() {
        for (int contract = 0; contract < 2; contract++) {
            ClearedExchange x = new ClearedExchange(0);
            CHECK.due("call at first", x.call(contract), 0);
            CHECK.due("call again", x.call(contract), 0);
            x.open(contract);
            CHECK.due("call when OPEN", x.call(contract), 1);
            CHECK.due("call again", x.call(contract), 0);
            x.open(1 - contract);
            CHECK.due("call when the other is OPEN", x.call(contract), 0);
            CHECK.due("the other is OPEN still", x.phase(1 - contract), 1);
        }
    }
}
