/** Calls in an order that no one would expect; each run's answers were worked out by hand from the document. */
public final class OddRunTest {
    private static final Check CHECK = new Check("OddRunTest");

    public static void main(String[] args) {
        settlementBeforeAnyOrder();
        settlementBeforeTheFirstAuction();
        settlementTwiceAtTheSameMarks();
        settlementOfCrossedOrdersInCall();
        dayBackwards();
        auctionCalledTwice();
        callCalledTwice();
        fuseLitWhileAnotherIsLit();
        fuseLitInAWrongWayWhileAnotherIsLit();
        callsWhileTheMachineIsDown();
        settlementThatCouldNotBeAnswered();
        stopsOfAnOrderThatCouldNotBeAnswered();
        auctionThatCouldNotBeWritten();
        ordersOfADefaulter();
        stopOfADefaulterIsNotLetLoose();
        stopsThatLetOthersLoose();
        stopsThatFindNobody();
        nineteenStopsAtOnce();
        severalThatCanNotPay();
        oneThatCanNotPayMeetsAnother();
        closingLetsAStopLooseOfTheNext();
        CHECK.end();
    }

    private static void money(String what, ClearedExchange x, long... due) {
        for (int account = 0; account < 5; account++) {
            CHECK.due(what + ": cash of " + account, x.cash(account), due[account]);
        }
    }

    private static void positions(String what, ClearedExchange x, int contract, int... due) {
        for (int account = 0; account < 5; account++) {
            CHECK.due(what + ": position of " + account, x.position(account, contract), due[account]);
        }
    }

    private static void trade(ClearedExchange x, int k, int... due) {
        for (int w = 0; w < 5; w++) {
            CHECK.due("trade(" + k + ", " + w + ")", x.trade(k, w), due[w]);
        }
    }

    private static void state(ClearedExchange x, int order, int left, int state) {
        CHECK.due("state(" + order + ", 0)", x.state(order, 0), left);
        CHECK.due("state(" + order + ", 1)", x.state(order, 1), state);
    }

    private static void settlementBeforeAnyOrder() {
        ClearedExchange x = new ClearedExchange(0);
        CHECK.due("settle", x.settle(1, 1000), 0);
        CHECK.due("is a message", x.messages(), 1);
        CHECK.due("its reply", x.reply(1), 0);
        money("nobody has anything", x, 0, 0, 0, 0, 0);
        for (int member = 0; member < 4; member++) {
            CHECK.due("no cash is not below 0", x.defaulter(member), false);
            CHECK.due("spare", x.spare(member), 0);
        }
        CHECK.due("a mark is no trade", x.last(0), 0);
        CHECK.due("still in CALL", x.phase(1), 0);
        x.deposit(0, 50);
        CHECK.due("5 of 100 of mark 1000", x.order(0, 1, true, Setup.LIMIT, 10, 1), 1);
        CHECK.due("all is covered by the order", x.spare(0), 0);
        CHECK.due("5 of 100 of mark 1 rounded up", x.order(0, 0, true, Setup.LIMIT, 10, 1), -5);
        CHECK.due("settle with an order alone", x.settle(1000, 1), 0);
        CHECK.due("the requirement follows the mark", x.spare(0), 49);
        state(x, 1, 1, 0);
    }

    private static void settlementBeforeTheFirstAuction() {
        int[] marks = {99, 100, 101};
        int[] prices = {90, 90, 110};
        for (int i = 0; i < 3; i++) {
            ClearedExchange x = new ClearedExchange(0);
            x.settle(marks[i], 1);
            x.deposit(0, 100);
            x.deposit(1, 100);
            x.order(0, 0, true, Setup.LIMIT, 110, 1);
            x.order(1, 0, false, Setup.LIMIT, 90, 1);
            CHECK.due("auction", x.open(0), 1);
            CHECK.due("nearest to mark " + marks[i], x.last(0), prices[i]);
        }
    }

    private static void settlementTwiceAtTheSameMarks() {
        ClearedExchange x = Setup.withPositions(10000);
        CHECK.due("settle", x.settle(90, 100), 0);
        money("once", x, 9500, 10000, 10000, 10500, 0);
        CHECK.due("settle again", x.settle(90, 100), 0);
        money("nothing more is paid", x, 9500, 10000, 10000, 10500, 0);
        CHECK.due("cost", x.cost(0, 0), 4500);
        CHECK.due("cost", x.cost(3, 0), -4500);
    }

    private static void settlementOfCrossedOrdersInCall() {
        ClearedExchange x = Setup.withPositions(1000);
        CHECK.due("call", x.call(0), 1);
        CHECK.due("a sale of the one that can't pay", x.order(0, 0, false, Setup.LIMIT, 60, 10), 3);
        CHECK.due("a buy that crosses it", x.order(1, 0, true, Setup.LIMIT, 80, 10), 4);
        CHECK.due("settle", x.settle(70, 100), 1);
        state(x, 3, 10, 2);
        state(x, 4, 10, 0);
        CHECK.due("no closing in CALL", x.trades(), 1);
        positions("all goes to the house", x, 0, 0, 0, 0, -50, 50);
        CHECK.due("nothing is left to auction", x.open(0), 0);
        CHECK.due("best buy", x.best(0, true), 80);
        CHECK.due("best sell", x.best(0, false), 0);
    }

    private static void dayBackwards() {
        ClearedExchange x = new ClearedExchange(0);
        CHECK.due("recover", x.recover(), -1);
        CHECK.due("settle", x.settle(100, 100), 0);
        CHECK.due("open", x.open(0), 0);
        CHECK.due("call", x.call(0), 1);
        CHECK.due("cancel", x.cancel(1), 0);
        CHECK.due("contribute", x.contribute(0, 1), -5);
        CHECK.due("withdraw", x.withdraw(0, 1), -5);
        CHECK.due("order", x.order(0, 0, true, Setup.LIMIT, 100, 1), -5);
        CHECK.due("order of a kind that CALL does not take", x.order(0, 0, true, Setup.MARKET, 100, 1), -3);
        CHECK.due("deposit", x.deposit(0, 5), 0);
        CHECK.due("the same order", x.order(0, 0, true, Setup.LIMIT, 100, 1), 1);
        CHECK.due("messages", x.messages(), 10);
        int[] replies = {-1, 0, 0, 1, 0, -5, -5, -5, -3, 0, 1, -1};
        for (int k = 0; k < replies.length; k++) {
            CHECK.due("reply(" + k + ")", x.reply(k), replies[k]);
        }
    }

    private static void auctionCalledTwice() {
        ClearedExchange x = Setup.inCall(10000);
        x.order(0, 0, true, Setup.LIMIT, 100, 3);
        x.order(1, 0, false, Setup.LIMIT, 100, 2);
        CHECK.due("open", x.open(0), 1);
        long[] before = Snapshot.of(x);
        CHECK.due("open again", x.open(0), -3);
        CHECK.due("and again", x.open(0), -3);
        CHECK.same("nothing is done", Snapshot.of(x), before);
        CHECK.due("both are messages", x.messages(), 9);
        CHECK.due("first reply", x.reply(7), 1);
        CHECK.due("second reply", x.reply(8), -3);
        CHECK.due("open of the other contract", x.open(1), 0);
        CHECK.due("again", x.open(1), -3);
        CHECK.due("call", x.call(0), 1);
        CHECK.due("a sale that crosses in CALL", x.order(2, 0, false, Setup.LIMIT, 90, 4), 3);
        CHECK.due("rests", x.best(0, false), 90);
        CHECK.due("below the buy that rests", x.best(0, true), 100);
        CHECK.due("a second auction", x.open(0), 1);
        trade(x, 0, 0, 2, 0, 100, 1);
        state(x, 3, 3, 0);
        CHECK.due("open again", x.open(0), -3);
        CHECK.due("call", x.call(0), 1);
        CHECK.due("a third auction without volume", x.open(0), 0);
        CHECK.due("leaves LAST", x.last(0), 100);
    }

    private static void callCalledTwice() {
        ClearedExchange x = Setup.opened(1000);
        CHECK.due("call", x.call(1), 1);
        CHECK.due("call again", x.call(1), 0);
        CHECK.due("and again", x.call(1), 0);
        CHECK.due("in CALL", x.phase(1), 0);
        CHECK.due("the other is OPEN", x.phase(0), 1);
        CHECK.due("messages", x.messages(), 9);
    }

    private static void fuseLitWhileAnotherIsLit() {
        ClearedExchange x = new ClearedExchange(0);
        CHECK.due("light(1)", x.light(1), true);
        CHECK.due("light(3) in its place", x.light(3), true);
        CHECK.due("two of 3 are taken", x.deposit(0, 1), 0);
        CHECK.due("light(3) in place of the 1 left", x.light(3), true);
        CHECK.due("two of 3 are taken", x.deposit(0, 1), 0);
        CHECK.due("1 is left for the writing", x.deposit(0, 1), -9);
        CHECK.due("recover", x.recover(), 3);
        CHECK.due("light(200)", x.light(200), true);
        CHECK.due("light(0) in its place", x.light(0), true);
        CHECK.due("nothing was to be written yet", x.down(), false);
        CHECK.due("not written", x.deposit(0, 1), -9);
        CHECK.due("recover", x.recover(), 3);
        CHECK.due("light(0)", x.light(0), true);
        CHECK.due("light(2) in its place", x.light(2), true);
        CHECK.due("both are taken", x.deposit(0, 1), 0);
        CHECK.due("nothing was to be written since", x.down(), false);
        CHECK.due("not written", x.deposit(0, 1), -9);
        CHECK.due("recover", x.recover(), 4);
        CHECK.due("cash", x.cash(0), 4);
    }

    private static void fuseLitInAWrongWayWhileAnotherIsLit() {
        ClearedExchange x = new ClearedExchange(0);
        x.light(3);
        CHECK.due("light(-1)", x.light(-1), false);
        CHECK.due("light(201)", x.light(201), false);
        CHECK.due("recover of one that is not down", x.recover(), -1);
        CHECK.due("two of 3 are taken", x.endow(1), 0);
        CHECK.due("1 is left for the writing", x.endow(1), -9);
        CHECK.due("light while down", x.light(3), false);
        CHECK.due("recover", x.recover(), 2);
        for (int i = 0; i < 5; i++) {
            CHECK.due("the fuse is out", x.endow(1), 0);
        }
        CHECK.due("capital", x.cash(4), 7);
    }

    private static void callsWhileTheMachineIsDown() {
        ClearedExchange x = Setup.busy();
        long[] before = Snapshot.of(x);
        x.light(0);
        CHECK.due("goes down", x.settle(1, 1), -9);
        for (int i = 0; i < 2; i++) {
            CHECK.due("settle", x.settle(1, 1), -9);
            CHECK.due("open", x.open(0), -9);
            CHECK.due("call", x.call(0), -9);
            CHECK.due("cancel", x.cancel(3), -9);
            CHECK.due("order", x.order(0, 0, true, Setup.MARKET, 1, 50), -9);
            CHECK.due("endow", x.endow(1), -9);
            CHECK.due("contribute", x.contribute(0, 1), -9);
            CHECK.due("withdraw", x.withdraw(0, 1), -9);
            CHECK.due("deposit with a wrong number", x.deposit(0, 0), -9);
            CHECK.due("light", x.light(9), false);
            CHECK.due("messages", x.messages(), -9);
            CHECK.due("reply", x.reply(1), -9);
            CHECK.due("cash of nobody", x.cash(9), -9);
            CHECK.due("defaulter", x.defaulter(0), false);
            CHECK.due("down", x.down(), true);
        }
        CHECK.due("recover", x.recover(), 18);
        CHECK.same("all is there again", Snapshot.of(x), before);
    }

    private static void settlementThatCouldNotBeAnswered() {
        ClearedExchange x = Setup.withPositions(1000);
        x.light(1);
        CHECK.due("settle", x.settle(70, 100), -9);
        CHECK.due("nobody is told to be a defaulter", x.defaulter(0), false);
        CHECK.due("recover", x.recover(), 9);
        CHECK.due("what would have been answered", x.reply(9), 1);
        CHECK.due("defaulter", x.defaulter(0), true);
        money("it was done", x, 0, 1000, 1000, 2500, -500);
        positions("the house has it", x, 0, 0, 0, 0, -50, 50);
        CHECK.due("once alone", x.settle(70, 100), 0);
    }

    private static void stopsOfAnOrderThatCouldNotBeAnswered() {
        ClearedExchange x = Setup.opened(10000);
        x.order(0, 0, true, Setup.STOP, 100, 2);
        x.order(1, 0, false, Setup.LIMIT, 100, 1);
        x.order(1, 0, false, Setup.LIMIT, 105, 5);
        x.light(1);
        CHECK.due("order", x.order(2, 0, true, Setup.LIMIT, 100, 1), -9);
        CHECK.due("recover", x.recover(), 10);
        CHECK.due("what would have been answered", x.reply(10), 4);
        CHECK.due("trades", x.trades(), 2);
        trade(x, 1, 2, 1, 0, 100, 1);
        trade(x, 0, 0, 1, 0, 105, 2);
        state(x, 1, 0, 2);
        state(x, 3, 3, 0);
        CHECK.due("the next number", x.order(2, 0, true, Setup.LIMIT, 1, 1), 5);
    }

    private static void auctionThatCouldNotBeWritten() {
        ClearedExchange x = Setup.inCall(10000);
        x.order(0, 0, true, Setup.LIMIT, 100, 3);
        x.order(1, 0, false, Setup.LIMIT, 100, 2);
        x.light(0);
        CHECK.due("open", x.open(0), -9);
        CHECK.due("recover", x.recover(), 6);
        CHECK.due("still in CALL", x.phase(0), 0);
        CHECK.due("no trade", x.trades(), 0);
        CHECK.due("no such message", x.reply(7), -1);
        CHECK.due("open", x.open(0), 1);
        CHECK.due("its reply", x.reply(7), 1);
    }

    private static void ordersOfADefaulter() {
        ClearedExchange x = Setup.withPositions(1000);
        x.order(0, 1, true, Setup.LIMIT, 100, 2);
        x.order(0, 1, false, Setup.STOP, 90, 3);
        x.order(0, 0, false, Setup.LIMIT, 120, 5);
        CHECK.due("settle", x.settle(70, 100), 1);
        for (int phase = 1; phase >= 0; phase--) {
            CHECK.due("phase", x.phase(1), phase);
            for (int kind = Setup.LIMIT; kind <= Setup.STOP; kind++) {
                CHECK.due("buy of kind " + kind, x.order(0, 1, true, kind, 100, 1), -2);
                CHECK.due("sell of kind " + kind, x.order(0, 1, false, kind, 100, 1), -2);
                CHECK.due("in the other contract", x.order(0, 0, false, kind, 100, 1), -2);
            }
            x.call(1);
        }
        for (int order = 3; order <= 5; order++) {
            state(x, order, order == 5 ? 5 : order - 1, 2);
            CHECK.due("cancel(" + order + ")", x.cancel(order), 0);
        }
        CHECK.due("none of its orders is auctioned", x.open(1), 0);
        CHECK.due("best buy", x.best(1, true), 0);
        CHECK.due("best sell", x.best(0, false), 0);
        CHECK.due("wrong numbers come first", x.order(0, 0, true, 6, 100, 1), -1);
        CHECK.due("the next number", x.order(1, 0, true, Setup.LIMIT, 1, 1), 6);
        CHECK.due("spare", x.spare(0), 0);
        CHECK.due("once a defaulter", x.settle(1, 1), 0);
    }

    private static void stopOfADefaulterIsNotLetLoose() {
        ClearedExchange x = Setup.withPositions(1000);
        x.order(0, 1, false, Setup.STOP, 90, 3);
        x.order(1, 1, true, Setup.LIMIT, 90, 20);
        CHECK.due("settle", x.settle(70, 100), 1);
        CHECK.due("LAST falls to the stop's price", x.order(2, 1, false, Setup.MARKET, 1, 1), 5);
        CHECK.due("last", x.last(1), 90);
        CHECK.due("trades", x.trades(), 2);
        positions("it sold nothing", x, 1, 0, 1, -1, 0, 0);
        state(x, 3, 3, 2);
    }

    private static void stopsThatLetOthersLoose() {
        ClearedExchange x = Setup.opened(10000);
        x.order(3, 0, false, Setup.LIMIT, 100, 1);
        x.order(2, 0, true, Setup.LIMIT, 100, 1);
        CHECK.due("waits for 90", x.order(1, 0, false, Setup.STOP, 90, 2), 3);
        CHECK.due("waits for 95", x.order(2, 0, false, Setup.STOP, 95, 2), 4);
        x.order(0, 0, false, Setup.LIMIT, 95, 1);
        x.order(3, 0, true, Setup.LIMIT, 90, 2);
        x.order(3, 0, true, Setup.LIMIT, 80, 2);
        CHECK.due("trades before", x.trades(), 1);
        CHECK.due("a buy stop that LAST has reached", x.order(3, 0, true, Setup.STOP, 100, 1), 8);
        CHECK.due("trades after", x.trades(), 4);
        trade(x, 2, 3, 0, 0, 95, 1);
        trade(x, 1, 3, 2, 0, 90, 2);
        trade(x, 0, 3, 1, 0, 80, 2);
        for (int order = 1; order <= 8; order++) {
            state(x, order, 0, 2);
        }
        positions("all are through", x, 0, -1, -2, -1, 4, 0);
        CHECK.due("last", x.last(0), 80);
    }

    private static void stopsThatFindNobody() {
        ClearedExchange x = Setup.opened(10000);
        x.order(1, 0, false, Setup.STOP, 100, 4);
        x.order(2, 0, false, Setup.STOP, 99, 5);
        x.order(3, 0, true, Setup.STOP, 100, 6);
        x.order(0, 0, true, Setup.LIMIT, 100, 1);
        CHECK.due("takes all that rests", x.order(1, 0, false, Setup.IMMEDIATE, 100, 1), 5);
        CHECK.due("trades", x.trades(), 1);
        state(x, 1, 4, 2);
        state(x, 2, 5, 1);
        state(x, 3, 6, 2);
        CHECK.due("cancel one that was let loose", x.cancel(1), 0);
        CHECK.due("cancel one that waits", x.cancel(2), 5);
    }

    private static void nineteenStopsAtOnce() {
        ClearedExchange x = Setup.opened(10000);
        for (int number = 1; number <= 19; number++) {
            CHECK.due("stop", x.order(1 + number % 2, 0, false, Setup.STOP, 100, 2), number);
        }
        CHECK.due("the twentieth that rests or waits", x.order(0, 0, true, Setup.LIMIT, 100, 50), 20);
        CHECK.due("the book is full", x.order(0, 0, true, Setup.STOP, 100, 1), -4);
        CHECK.due("all are let loose", x.order(3, 0, false, Setup.IMMEDIATE, 100, 1), 21);
        CHECK.due("trades", x.trades(), 20);
        for (int k = 0; k < 16; k++) {
            trade(x, k, 0, 1 + (19 - k) % 2, 0, 100, 2);
        }
        state(x, 20, 50 - 1 - 38, 0);
        positions("each sold its own", x, 0, 39, -18, -20, -1, 0);
    }

    private static void severalThatCanNotPay() {
        ClearedExchange x = new ClearedExchange(0);
        int[] shares = {100, 200, 300, 400};
        for (int member = 0; member < 4; member++) {
            x.deposit(member, (member == 3 ? 50000 : 1000) + shares[member]);
            x.contribute(member, shares[member]);
        }
        x.endow(50);
        x.open(0);
        for (int member = 0; member < 3; member++) {
            x.order(3, 0, false, Setup.LIMIT, 100, 50);
            x.order(member, 0, true, Setup.LIMIT, 100, 50);
        }
        CHECK.due("settle", x.settle(70, 100), 3);
        // 0 lacks 500: 100 its share, 50 the capital, 350 of 200 + 300 + 400: 78, 117, 155.
        // 1 lacks 500: 122 its share, 378 of 183 + 245: 162, 216.
        // 2 lacks 500: 21 its share, 29 that of 3, 450 the capital.
        for (int member = 0; member < 4; member++) {
            CHECK.due("defaulter", x.defaulter(member), member < 3);
            CHECK.due("share", x.share(member), 0);
        }
        money("the rest is the capital's", x, 0, 0, 0, 54500, -450);
        positions("the house has all three", x, 0, 0, 0, 0, -150, 150);
        CHECK.due("its cost", x.cost(4, 0), 10500);
        CHECK.due("spare of the one that is left", x.spare(3), 54500 - 525);
        CHECK.due("settle back", x.settle(100, 100), 0);
        money("the house gains what 3 loses", x, 0, 0, 0, 50000, 4050);
    }

    private static ClearedExchange twoLongMembers() {
        ClearedExchange x = Setup.opened(1000);
        x.deposit(2, 49000);
        x.deposit(3, 49000);
        for (int member = 0; member < 2; member++) {
            x.order(3, 0, false, Setup.LIMIT, 100, 50);
            x.order(member, 0, true, Setup.LIMIT, 100, 50);
        }
        return x;
    }

    /** Member 1 can't pay either, but is no defaulter yet when 0 is closed out: its order is met. */
    private static void oneThatCanNotPayMeetsAnother() {
        ClearedExchange x = twoLongMembers();
        CHECK.due("a buy of 1", x.order(1, 0, true, Setup.LIMIT, 60, 20), 5);
        CHECK.due("a buy of 2", x.order(2, 0, true, Setup.LIMIT, 55, 30), 6);
        CHECK.due("settle", x.settle(70, 100), 2);
        CHECK.due("trades", x.trades(), 4);
        trade(x, 1, 1, 0, 0, 60, 20);
        trade(x, 0, 2, 0, 0, 55, 30);
        state(x, 5, 0, 2);
        state(x, 6, 0, 2);
        // 0: -500 - (3500 - 1200 - 1650) = -1150; 1: -500 - (3500 + 1200 - 70 * 70) = -300.
        money("both losses are the capital's", x, 0, 0, 50000, 53000, -1450);
        positions("the house has 70", x, 0, 0, 0, 30, -100, 70);
        CHECK.due("its cost", x.cost(4, 0), 4900);
        CHECK.due("cost of 2", x.cost(2, 0), 1650);
        CHECK.due("spare of 2", x.spare(2), 50000 + 450 - 105);
    }

    private static void closingLetsAStopLooseOfTheNext() {
        ClearedExchange x = twoLongMembers();
        CHECK.due("a stop of 1", x.order(1, 0, false, Setup.STOP, 60, 10), 5);
        x.order(2, 0, true, Setup.LIMIT, 55, 50);
        x.order(2, 0, true, Setup.LIMIT, 50, 30);
        CHECK.due("settle", x.settle(70, 100), 2);
        CHECK.due("trades", x.trades(), 5);
        trade(x, 2, 2, 0, 0, 55, 50);
        trade(x, 1, 2, 1, 0, 50, 10);
        trade(x, 0, 2, 1, 0, 50, 20);
        state(x, 5, 0, 2);
        // 0: -500 - (3500 - 2750) = -1250; 1: -500 - (3500 - 500 - 1000 - 20 * 70) = -1100.
        money("both losses are the capital's", x, 0, 0, 50000, 53000, -2350);
        positions("the house has what nobody bought", x, 0, 0, 0, 80, -100, 20);
        CHECK.due("its cost", x.cost(4, 0), 1400);
        CHECK.due("cost of 2", x.cost(2, 0), 4250);
    }
}
