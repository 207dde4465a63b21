/** Promises 6, 7 and 26: what refuses an order, the kinds, matching, cancelling, and what an order tells. */
public final class OrderTest {
    private static final Check CHECK = new Check("OrderTest");

    public static void main(String[] args) {
        rangesOfNumbers();
        refusalsInTheirOrder();
        callTakesLimitAndStopAlone();
        noMoreThanTwentyActive();
        coverIsAskedForEveryKind();
        coverCountsTheOrderAtMark();
        limitMatchesThenRests();
        priceThenTime();
        ownOrdersAreDoneWithoutATrade();
        immediateLapses();
        whole();
        passive();
        marketMeetsEveryPrice();
        contractsAreApart();
        cancelling();
        states();
        CHECK.end();
    }

    private static void rangesOfNumbers() {
        ClearedExchange x = Setup.opened(100000);
        int[][] wrong = {
            {-1, 0, 0, 100, 1}, {4, 0, 0, 100, 1}, {0, -1, 0, 100, 1}, {0, 2, 0, 100, 1}, {0, 0, -1, 100, 1},
            {0, 0, 6, 100, 1}, {0, 0, 0, 0, 1}, {0, 0, 0, 1001, 1}, {0, 0, 0, 100, 0}, {0, 0, 0, 100, 51},
            {0, 0, 4, 0, 1}, {0, 0, 4, 1001, 1}, {0, 0, 0, 100, -1}, {0, 0, 0, Integer.MIN_VALUE, 1},
        };
        int before = x.messages();
        for (int[] n : wrong) {
            CHECK.due("order out of range", x.order(n[0], n[1], true, n[2], n[3], n[4]), -1);
        }
        CHECK.due("they are no messages", x.messages(), before);
        CHECK.due("lowest price", x.order(0, 0, true, 0, 1, 1), 1);
        CHECK.due("highest price", x.order(0, 1, false, 0, 1000, 50), 2);
        CHECK.due("last member", x.order(3, 1, true, 5, 1000, 1), 3);
    }

    private static void refusalsInTheirOrder() {
        // A defaulter with no cash, in a contract in CALL: all refusals hold, and -2 is the first.
        ClearedExchange x = Setup.withPositions(1000);
        x.settle(70, 100);
        x.call(0);
        CHECK.due("defaulter first", x.order(0, 0, true, Setup.WHOLE, 100, 50), -2);
        CHECK.due("then the phase", x.order(1, 0, true, Setup.WHOLE, 100, 50), -3);
        CHECK.due("a refused order has no number", x.order(1, 0, true, Setup.LIMIT, 10, 1), 3);

        // Full, without cover, and with a price that meets a resting order.
        ClearedExchange y = Setup.opened(1000);
        fill(y, 1);
        y.withdraw(0, 1000);
        CHECK.due("full before cover", y.order(0, 0, true, Setup.PASSIVE, 500, 50), -4);
        CHECK.due("a PASSIVE one in CALL is refused for the phase", callThenPassive(), -3);
        y.cancel(1);
        CHECK.due("cover before passive", y.order(0, 0, true, Setup.PASSIVE, 500, 50), -5);
        CHECK.due("cover before whole", y.order(0, 0, true, Setup.WHOLE, 500, 50), -5);
        CHECK.due("passive", y.order(2, 0, true, Setup.PASSIVE, 500, 50), -6);
        CHECK.due("whole", y.order(2, 0, true, Setup.WHOLE, 500, 50), -7);
        CHECK.due("messages", y.messages(), 4 + 2 + 20 + 1 + 1 + 1 + 4);
    }

    private static int callThenPassive() {
        ClearedExchange x = Setup.opened(1000);
        fill(x, 1);
        x.call(0);
        return x.order(0, 0, true, Setup.PASSIVE, 500, 50);
    }

    /** Twenty sells of 1 at 500 of contract 0 by a member. */
    private static void fill(ClearedExchange x, int member) {
        for (int i = 0; i < 20; i++) {
            x.order(member, 0, false, Setup.LIMIT, 500, 1);
        }
    }

    private static void callTakesLimitAndStopAlone() {
        ClearedExchange x = Setup.inCall(1000);
        int[] answers = {1, -3, -3, -3, -3, 2};
        for (int kind = 0; kind < 6; kind++) {
            CHECK.due("kind " + kind + " in CALL", x.order(0, 0, true, kind, 100, 1), answers[kind]);
        }
        CHECK.due("a LIMIT that crosses rests too", x.order(1, 0, false, 0, 90, 1), 3);
        CHECK.due("no trade in CALL", x.trades(), 0);
        CHECK.due("both rest", x.best(0, false), 90);
        CHECK.due("own orders stay in CALL", x.order(0, 0, false, 0, 90, 1), 4);
        CHECK.due("resting", x.state(1, 1), 0);
    }

    private static void noMoreThanTwentyActive() {
        ClearedExchange x = Setup.opened(10000);
        for (int i = 0; i < 20; i++) {
            int kind = i % 3 == 0 ? Setup.STOP : i % 3 == 1 ? Setup.LIMIT : Setup.PASSIVE;
            CHECK.due("order " + i, x.order(i % 4, i % 2, false, kind, kind == Setup.STOP ? 10 : 200, 2), i + 1);
        }
        CHECK.due("LIMIT", x.order(0, 0, true, Setup.LIMIT, 100, 1), -4);
        CHECK.due("LIMIT that would be matched whole", x.order(2, 0, true, Setup.LIMIT, 200, 1), -4);
        CHECK.due("PASSIVE", x.order(0, 0, true, Setup.PASSIVE, 100, 1), -4);
        CHECK.due("STOP", x.order(0, 0, true, Setup.STOP, 900, 1), -4);
        CHECK.due("IMMEDIATE", x.order(0, 0, true, Setup.IMMEDIATE, 100, 1), 21);
        CHECK.due("WHOLE", x.order(0, 0, true, Setup.WHOLE, 200, 1), 22);
        CHECK.due("MARKET", x.order(0, 0, true, Setup.MARKET, 100, 1), 23);
        CHECK.due("what was met is done, so there is room", x.order(0, 0, true, Setup.LIMIT, 100, 1), 24);
        CHECK.due("and again none", x.order(0, 0, true, Setup.LIMIT, 100, 1), -4);
        x.cancel(1);
        CHECK.due("room after a cancel", x.order(0, 0, true, Setup.STOP, 900, 1), 25);
    }

    private static void coverIsAskedForEveryKind() {
        ClearedExchange x = Setup.opened(1000);
        x.order(1, 0, false, Setup.LIMIT, 100, 50);
        x.withdraw(0, 1000);
        int[] answers = {-5, -5, -5, -5, -5, -5};
        for (int kind = 0; kind < 6; kind++) {
            CHECK.due("kind " + kind + " without cover", x.order(0, 0, true, kind, 100, 1), answers[kind]);
        }
        x.deposit(0, 5);
        CHECK.due("with just the cover", x.order(0, 0, true, Setup.IMMEDIATE, 100, 1), 2);
    }

    private static void coverCountsTheOrderAtMark() {
        ClearedExchange x = Setup.opened(50);
        CHECK.due("10 at the mark of 100 need 50, whatever their price", x.order(0, 0, true, 0, 90, 10), 1);
        CHECK.due("one more", x.order(0, 0, true, 0, 1, 1), -5);
        CHECK.due("one of the other contract", x.order(0, 1, true, 0, 1, 1), -5);
        CHECK.due("the other side is free up to the greater one", x.order(0, 0, false, 0, 200, 10), 2);
        CHECK.due("but no more", x.order(0, 0, false, 0, 200, 1), -5);
        x.cancel(1);
        CHECK.due("a done order frees its cover", x.order(0, 0, true, 0, 1, 10), 3);
        CHECK.due("MARK is 100 at first for both", x.order(1, 1, true, 0, 1, 10), 4);
        CHECK.due("and no more", x.order(1, 1, true, 0, 1, 1), -5);
    }

    private static void limitMatchesThenRests() {
        ClearedExchange x = Setup.opened(10000);
        x.order(1, 0, false, Setup.LIMIT, 100, 5);
        CHECK.due("a buy below does not meet", x.order(0, 0, true, Setup.LIMIT, 99, 5), 2);
        CHECK.due("no trade", x.trades(), 0);
        CHECK.due("a buy at it meets, at the resting price", x.order(2, 0, true, Setup.LIMIT, 105, 8), 3);
        CHECK.due("one trade", x.trades(), 1);
        CHECK.due("price", x.trade(0, 3), 100);
        CHECK.due("quantity", x.trade(0, 4), 5);
        CHECK.due("the met order is done", x.state(1, 1), 2);
        CHECK.due("with nothing left", x.state(1, 0), 0);
        CHECK.due("the rest rests", x.state(3, 1), 0);
        CHECK.due("3 of it", x.state(3, 0), 3);
        CHECK.due("best", x.best(0, true), 105);
        CHECK.due("a sell meets the best buy", x.order(3, 0, false, Setup.LIMIT, 99, 4), 4);
        CHECK.due("trades", x.trades(), 3);
        CHECK.due("first at 105", x.trade(1, 3), 105);
        CHECK.due("then at 99", x.trade(0, 3), 99);
        CHECK.due("last", x.last(0), 99);
        CHECK.due("the sell is done", x.state(4, 1), 2);
        CHECK.due("position", x.position(3, 0), -4);
        CHECK.due("cost", x.cost(3, 0), -(3 * 105 + 99));
        CHECK.due("cash is not moved by a trade", x.cash(3), 10000);
    }

    private static void priceThenTime() {
        ClearedExchange x = Setup.opened(10000);
        x.order(0, 0, false, Setup.LIMIT, 101, 1);
        x.order(1, 0, false, Setup.LIMIT, 100, 2);
        x.order(2, 0, false, Setup.LIMIT, 100, 3);
        x.order(0, 0, false, Setup.LIMIT, 99, 4);
        x.order(3, 0, true, Setup.LIMIT, 100, 8);
        CHECK.due("trades", x.trades(), 3);
        int[] sellers = {2, 1, 0};
        int[] quantities = {2, 2, 4};
        for (int k = 0; k < 3; k++) {
            CHECK.due("seller of " + k, x.trade(k, 1), sellers[k]);
            CHECK.due("quantity of " + k, x.trade(k, 4), quantities[k]);
        }
        CHECK.due("left of the later one", x.state(3, 0), 1);
        ClearedExchange y = Setup.opened(10000);
        y.order(0, 1, true, Setup.LIMIT, 99, 1);
        y.order(1, 1, true, Setup.LIMIT, 100, 2);
        y.order(2, 1, true, Setup.LIMIT, 100, 3);
        y.order(3, 1, false, Setup.LIMIT, 99, 4);
        CHECK.due("the first at the highest price", y.trade(1, 0), 1);
        CHECK.due("then the second", y.trade(0, 0), 2);
        CHECK.due("the lower one is untouched", y.state(1, 0), 1);
        CHECK.due("seller", y.trade(0, 1), 3);
    }

    private static void ownOrdersAreDoneWithoutATrade() {
        ClearedExchange x = Setup.opened(10000);
        x.order(0, 0, false, Setup.LIMIT, 99, 7);
        x.order(1, 0, false, Setup.LIMIT, 100, 2);
        x.order(0, 0, false, Setup.LIMIT, 101, 3);
        CHECK.due("buy through an own order", x.order(0, 0, true, Setup.LIMIT, 100, 5), 4);
        CHECK.due("one trade", x.trades(), 1);
        CHECK.due("with the other", x.trade(0, 1), 1);
        CHECK.due("the own one is done", x.state(1, 1), 2);
        CHECK.due("what it had left lapsed", x.state(1, 0), 7);
        CHECK.due("an own one that is not reached stays", x.state(3, 1), 0);
        CHECK.due("the rest rests", x.state(4, 0), 3);
        CHECK.due("position", x.position(0, 0), 2);
    }

    private static void immediateLapses() {
        ClearedExchange x = Setup.opened(10000);
        CHECK.due("with nothing there", x.order(0, 0, true, Setup.IMMEDIATE, 100, 4), 1);
        CHECK.due("done", x.state(1, 1), 2);
        CHECK.due("4 lapsed", x.state(1, 0), 4);
        x.order(1, 0, true, Setup.LIMIT, 100, 3);
        x.order(1, 0, true, Setup.LIMIT, 98, 3);
        CHECK.due("a part is met", x.order(0, 0, false, Setup.IMMEDIATE, 99, 5), 4);
        CHECK.due("trades", x.trades(), 1);
        CHECK.due("2 lapsed", x.state(4, 0), 2);
        CHECK.due("done", x.state(4, 1), 2);
        CHECK.due("nothing rests", x.best(0, false), 0);
        CHECK.due("no exposure is left of it", x.spare(0), 10000 - 15);
    }

    private static void whole() {
        ClearedExchange x = Setup.opened(10000);
        x.order(1, 0, false, Setup.LIMIT, 100, 3);
        x.order(2, 0, false, Setup.LIMIT, 101, 3);
        x.order(0, 0, false, Setup.LIMIT, 100, 10);
        x.order(3, 0, false, Setup.LIMIT, 102, 10);
        CHECK.due("own orders and others' beyond the price do not count", x.order(0, 0, true, Setup.WHOLE, 101, 7), -7);
        CHECK.due("a refused one meets nothing", x.trades(), 0);
        CHECK.due("and ends no own order", x.state(3, 1), 0);
        CHECK.due("just so much", x.order(0, 0, true, Setup.WHOLE, 101, 6), 5);
        CHECK.due("trades", x.trades(), 2);
        CHECK.due("done", x.state(5, 1), 2);
        CHECK.due("with nothing left", x.state(5, 0), 0);
        CHECK.due("the own order in its way is done", x.state(3, 1), 2);
        CHECK.due("other side and contract do not count", x.order(0, 1, true, Setup.WHOLE, 1000, 1), -7);
        CHECK.due("a sell's price allows none lower", x.order(0, 0, false, Setup.WHOLE, 1, 1), -7);
        x.order(1, 0, true, Setup.LIMIT, 90, 1);
        CHECK.due("none lower", x.order(0, 0, false, Setup.WHOLE, 91, 1), -7);
        CHECK.due("just at it", x.order(0, 0, false, Setup.WHOLE, 90, 1), 7);
    }

    private static void passive() {
        ClearedExchange x = Setup.opened(10000);
        x.order(0, 0, false, Setup.LIMIT, 100, 1);
        CHECK.due("at the other side", x.order(1, 0, true, Setup.PASSIVE, 100, 1), -6);
        CHECK.due("at an own order too", x.order(0, 0, true, Setup.PASSIVE, 100, 1), -6);
        CHECK.due("one below", x.order(1, 0, true, Setup.PASSIVE, 99, 1), 2);
        CHECK.due("rests", x.state(2, 1), 0);
        CHECK.due("a sell at it", x.order(2, 0, false, Setup.PASSIVE, 99, 1), -6);
        CHECK.due("a sell above", x.order(2, 0, false, Setup.PASSIVE, 100, 4), 3);
        CHECK.due("volume", x.volume(0, false, 100), 5);
        CHECK.due("no trades", x.trades(), 0);
        CHECK.due("the other contract is apart", x.order(2, 1, false, Setup.PASSIVE, 1, 4), 4);
    }

    private static void marketMeetsEveryPrice() {
        ClearedExchange x = Setup.opened(10000);
        x.order(1, 0, false, Setup.LIMIT, 100, 1);
        x.order(1, 0, false, Setup.LIMIT, 1000, 1);
        x.order(2, 0, true, Setup.LIMIT, 1, 1);
        CHECK.due("a buy, its own price means nothing", x.order(0, 0, true, Setup.MARKET, 1, 3), 4);
        CHECK.due("trades", x.trades(), 2);
        CHECK.due("last", x.last(0), 1000);
        CHECK.due("the rest lapsed", x.state(4, 0), 1);
        CHECK.due("a sell", x.order(0, 0, false, Setup.MARKET, 1000, 3), 5);
        CHECK.due("last", x.last(0), 1);
        CHECK.due("the rest lapsed", x.state(5, 0), 2);
        CHECK.due("done", x.state(5, 1), 2);
    }

    private static void contractsAreApart() {
        ClearedExchange x = Setup.opened(10000);
        x.order(1, 0, false, Setup.LIMIT, 100, 1);
        x.order(0, 1, true, Setup.LIMIT, 100, 1);
        CHECK.due("no trade over two contracts", x.trades(), 0);
        x.order(2, 1, false, Setup.LIMIT, 100, 1);
        CHECK.due("contract of the trade", x.trade(0, 2), 1);
        CHECK.due("last of the other", x.last(0), 0);
        CHECK.due("last", x.last(1), 100);
        x.call(1);
        x.order(2, 1, false, Setup.LIMIT, 100, 1);
        CHECK.due("one in CALL, the other OPEN", x.order(0, 0, true, Setup.MARKET, 1, 1), 5);
        CHECK.due("trades", x.trades(), 2);
    }

    private static void cancelling() {
        ClearedExchange x = Setup.opened(10000);
        x.order(1, 0, false, Setup.LIMIT, 100, 9);
        x.order(0, 0, true, Setup.IMMEDIATE, 100, 4);
        x.order(1, 0, true, Setup.STOP, 900, 3);
        CHECK.due("of no order", x.cancel(4), 0);
        CHECK.due("of a done one with nothing left", x.cancel(2), 0);
        CHECK.due("of one that rests", x.cancel(1), 5);
        CHECK.due("it is done", x.state(1, 1), 2);
        CHECK.due("it lapsed", x.state(1, 0), 5);
        CHECK.due("again", x.cancel(1), 0);
        CHECK.due("the book is empty", x.best(0, false), 0);
        CHECK.due("of one that waits", x.cancel(3), 3);
        CHECK.due("it is done", x.state(3, 1), 2);
        CHECK.due("highest number", x.cancel(1000), 0);
        int before = x.messages();
        CHECK.due("number 0", x.cancel(0), -1);
        CHECK.due("number 1001", x.cancel(1001), -1);
        CHECK.due("number below 0", x.cancel(-1), -1);
        CHECK.due("they are no messages", x.messages(), before);
    }

    private static void states() {
        ClearedExchange x = Setup.opened(10000);
        x.order(0, 0, true, Setup.LIMIT, 90, 6);
        x.order(0, 0, true, Setup.STOP, 900, 7);
        CHECK.due("left of a resting one", x.state(1, 0), 6);
        CHECK.due("it rests", x.state(1, 1), 0);
        CHECK.due("left of a waiting one", x.state(2, 0), 7);
        CHECK.due("it waits", x.state(2, 1), 1);
        CHECK.due("w 2", x.state(1, 2), -1);
        CHECK.due("w -1", x.state(1, -1), -1);
        CHECK.due("number 0", x.state(0, 1), -1);
        CHECK.due("number 3", x.state(3, 0), -1);
        CHECK.due("number below 0", x.state(Integer.MIN_VALUE, 0), -1);
        CHECK.due("number far above", x.state(Integer.MAX_VALUE, 0), -1);
    }
}
