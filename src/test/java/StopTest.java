/** Promise 6 and the terms of STOP: when stops become MARKET, in which order, and with what. */
public final class StopTest {
    private static final Check CHECK = new Check("StopTest");

    public static void main(String[] args) {
        waitsWithoutALast();
        firesAtItsPrice();
        firesInItsOwnMessage();
        leastNumberFirst();
        firesInAChain();
        waitsInCall();
        firesAfterTheAuction();
        restLapses();
        meetsOwnOrders();
        CHECK.end();
    }

    /** Members 2 and 3 trade 1 of a contract at a price, which becomes LAST. */
    private static void tradeAt(ClearedExchange x, int contract, int price) {
        x.order(2, contract, false, Setup.LIMIT, price, 1);
        x.order(3, contract, true, Setup.IMMEDIATE, price, 1);
    }

    private static void waitsWithoutALast() {
        ClearedExchange x = Setup.opened(10000);
        x.order(0, 0, false, Setup.LIMIT, 200, 5);
        CHECK.due("a buy stop at 1", x.order(1, 0, true, Setup.STOP, 1, 5), 2);
        CHECK.due("it waits", x.state(2, 1), 1);
        CHECK.due("a sell stop at 1000", x.order(1, 0, false, Setup.STOP, 1000, 5), 3);
        CHECK.due("it waits", x.state(3, 1), 1);
        tradeAt(x, 1, 500);
        CHECK.due("LAST of the other contract does nothing", x.state(2, 1), 1);
    }

    private static void firesAtItsPrice() {
        ClearedExchange x = Setup.opened(10000);
        x.order(1, 0, true, Setup.STOP, 105, 2);
        x.order(1, 0, false, Setup.STOP, 95, 2);
        tradeAt(x, 0, 104);
        CHECK.due("below a buy's price", x.state(1, 1), 1);
        tradeAt(x, 0, 96);
        CHECK.due("above a sell's price", x.state(2, 1), 1);
        tradeAt(x, 0, 105);
        CHECK.due("at a buy's price", x.state(1, 1), 2);
        tradeAt(x, 0, 95);
        CHECK.due("at a sell's price", x.state(2, 1), 2);

        ClearedExchange y = Setup.opened(10000);
        y.order(1, 0, true, Setup.STOP, 105, 2);
        y.order(1, 0, false, Setup.STOP, 95, 2);
        tradeAt(y, 0, 300);
        CHECK.due("above a buy's price", y.state(1, 1), 2);
        CHECK.due("far above a sell's price", y.state(2, 1), 1);
        tradeAt(y, 0, 20);
        CHECK.due("below a sell's price", y.state(2, 1), 2);
    }

    private static void firesInItsOwnMessage() {
        ClearedExchange x = Setup.opened(10000);
        tradeAt(x, 0, 100);
        x.order(0, 0, false, Setup.LIMIT, 130, 5);
        CHECK.due("the number is answered", x.order(1, 0, true, Setup.STOP, 100, 3), 4);
        CHECK.due("it was met at once", x.state(4, 1), 2);
        CHECK.due("whole", x.state(4, 0), 0);
        CHECK.due("at every price", x.last(0), 130);
        CHECK.due("position", x.position(1, 0), 3);
    }

    private static void leastNumberFirst() {
        ClearedExchange x = Setup.opened(10000);
        x.order(1, 0, true, Setup.STOP, 102, 2);
        x.order(0, 0, true, Setup.STOP, 101, 2);
        x.order(3, 0, false, Setup.LIMIT, 110, 3);
        x.order(2, 0, false, Setup.LIMIT, 105, 1);
        x.order(3, 0, true, Setup.IMMEDIATE, 105, 1);
        CHECK.due("trades", x.trades(), 3);
        CHECK.due("the least number is met first", x.trade(1, 0), 1);
        CHECK.due("with 2", x.trade(1, 4), 2);
        CHECK.due("then the next", x.trade(0, 0), 0);
        CHECK.due("with what is there", x.trade(0, 4), 1);
        CHECK.due("its rest lapsed", x.state(2, 0), 1);
    }

    private static void firesInAChain() {
        // The sell stop 2 drives LAST to 90, which fires 1, whose number is less than that of 2.
        ClearedExchange x = Setup.opened(10000);
        x.order(1, 0, false, Setup.STOP, 90, 1);
        x.order(1, 0, false, Setup.STOP, 95, 1);
        x.order(0, 0, true, Setup.LIMIT, 95, 1);
        x.order(0, 0, true, Setup.LIMIT, 90, 1);
        x.order(0, 0, true, Setup.LIMIT, 80, 1);
        x.order(2, 0, false, Setup.IMMEDIATE, 95, 1);
        CHECK.due("trades", x.trades(), 3);
        CHECK.due("first stop", x.state(1, 1), 2);
        CHECK.due("second stop", x.state(2, 1), 2);
        CHECK.due("last", x.last(0), 80);
        CHECK.due("position", x.position(1, 0), -2);
    }

    private static void waitsInCall() {
        ClearedExchange x = Setup.opened(10000);
        tradeAt(x, 0, 100);
        x.call(0);
        CHECK.due("a stop that LAST has reached", x.order(1, 0, true, Setup.STOP, 90, 1), 3);
        CHECK.due("waits in CALL", x.state(3, 1), 1);
        x.deposit(0, 1);
        CHECK.due("still waits", x.state(3, 1), 1);
        CHECK.due("an auction without trades", x.open(0), 0);
        CHECK.due("LAST is still there, so it fires", x.state(3, 1), 2);
        CHECK.due("it lapsed", x.state(3, 0), 1);
    }

    private static void firesAfterTheAuction() {
        ClearedExchange x = Setup.inCall(10000);
        x.order(0, 0, true, Setup.LIMIT, 100, 2);
        x.order(1, 0, false, Setup.LIMIT, 100, 1);
        x.order(2, 0, false, Setup.STOP, 100, 1);
        CHECK.due("the auction's trades alone are answered", x.open(0), 1);
        CHECK.due("the stop was met after it", x.trades(), 2);
        CHECK.due("seller", x.trade(0, 1), 2);
    }

    private static void restLapses() {
        ClearedExchange x = Setup.opened(10000);
        tradeAt(x, 0, 100);
        x.order(0, 0, true, Setup.LIMIT, 50, 4);
        x.order(1, 0, false, Setup.STOP, 100, 9);
        CHECK.due("met", x.last(0), 50);
        CHECK.due("rest lapsed", x.state(4, 0), 5);
        CHECK.due("done", x.state(4, 1), 2);
        CHECK.due("no order rests", x.best(0, false), 0);
        CHECK.due("its cover is free", x.spare(1), 10000 - 4 * 50 - 20);
    }

    private static void meetsOwnOrders() {
        ClearedExchange x = Setup.opened(10000);
        tradeAt(x, 0, 100);
        x.order(1, 0, true, Setup.LIMIT, 60, 4);
        x.order(0, 0, true, Setup.LIMIT, 50, 4);
        x.order(1, 0, false, Setup.STOP, 100, 3);
        CHECK.due("the own order is done", x.state(3, 1), 2);
        CHECK.due("no trade with itself", x.trade(0, 0), 0);
        CHECK.due("met", x.state(5, 0), 0);
    }
}
