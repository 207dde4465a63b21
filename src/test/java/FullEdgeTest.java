/** What is full: twenty orders that rest or wait, sixteen trades that are kept, 512 calls of an object. */
public final class FullEdgeTest {
    private static final Check CHECK = new Check("FullEdgeTest");

    public static void main(String[] args) {
        twentyOfOneMemberAndContract();
        twentyOfAllMembersAndContracts();
        twentyThatWait();
        doneOrdersDoNotCount();
        roomAfterACancel();
        roomAfterATrade();
        noRoomAfterAPartOfATrade();
        roomAfterMeetingAnOwnOrder();
        roomAfterAStop();
        roomAfterAnAuction();
        roomAfterADefault();
        twentyMetByOne();
        twentyOwnMetByOne();
        twentyInAnAuction();
        twentyStopsInOneMessage();
        sixteenTradesAreKept();
        tradesWrapAround();
        sixteenTradesOverBothContracts();
        callsToThe512thAreMessages();
        callsToThe512thAreOrders();
        the512thCallIsAQuestion();
        the512thCallRecovers();
        CHECK.end();
    }

    private static void sells(ClearedExchange x, int member, int contract, int count) {
        for (int i = 0; i < count; i++) {
            x.order(member, contract, false, Setup.LIMIT, 500, 2);
        }
    }

    /** That so many rest or wait: the order that makes them twenty is taken, and the next is not. */
    private static void isRoomFor(String what, ClearedExchange x, int room) {
        for (int i = 0; i < room; i++) {
            CHECK.due(what + ": room for " + (i + 1), x.order(2, 1, true, Setup.LIMIT, 1, 1) > 0, true);
        }
        CHECK.due(what + ": no room for " + (room + 1), x.order(2, 1, true, Setup.LIMIT, 1, 1), -4);
    }

    /** Promise 6: "20 orders (of all members and contracts) rest or wait". */
    private static void twentyOfOneMemberAndContract() {
        for (int count = 18; count <= 20; count++) {
            ClearedExchange x = Setup.opened(10000);
            sells(x, 1, 0, count);
            isRoomFor(count + " of one", x, 20 - count);
        }
    }

    private static void twentyOfAllMembersAndContracts() {
        ClearedExchange x = Setup.inCall(10000);
        for (int i = 0; i < 20; i++) {
            CHECK.due("order " + i, x.order(i % 4, i / 4 % 2, i % 3 == 0, i % 2 == 0 ? 0 : 5, 100, 1), i + 1);
        }
        for (int member = 0; member < 4; member++) {
            for (int contract = 0; contract < 2; contract++) {
                CHECK.due("LIMIT", x.order(member, contract, true, Setup.LIMIT, 100, 1), -4);
                CHECK.due("STOP", x.order(member, contract, false, Setup.STOP, 100, 1), -4);
            }
        }
        CHECK.due("all of them rest or wait", x.state(1, 1) + x.state(20, 1), 0 + 1);
    }

    private static void twentyThatWait() {
        for (int count = 18; count <= 20; count++) {
            ClearedExchange x = Setup.opened(10000);
            for (int i = 0; i < count; i++) {
                x.order(3, 0, true, Setup.STOP, 500, 1);
            }
            isRoomFor(count + " that wait", x, 20 - count);
        }
    }

    private static void doneOrdersDoNotCount() {
        ClearedExchange x = Setup.opened(10000);
        for (int i = 0; i < 30; i++) {
            x.order(0, 0, true, Setup.IMMEDIATE, 100, 1);
        }
        isRoomFor("after 30 that lapsed", x, 20);
    }

    private static void roomAfterACancel() {
        ClearedExchange x = Setup.opened(10000);
        sells(x, 1, 0, 19);
        x.order(1, 0, false, Setup.STOP, 100, 1);
        CHECK.due("cancel of one that rests", x.cancel(1), 2);
        isRoomFor("after a cancel", x, 1);
        CHECK.due("cancel of one that waits", x.cancel(20), 1);
        isRoomFor("after a cancel of a stop", x, 1);
        CHECK.due("cancel of one that is done", x.cancel(1), 0);
        isRoomFor("after a cancel of nothing", x, 0);
    }

    private static void roomAfterATrade() {
        ClearedExchange x = Setup.opened(10000);
        sells(x, 1, 0, 20);
        x.order(0, 0, true, Setup.IMMEDIATE, 500, 4);
        isRoomFor("after two were met", x, 2);
    }

    private static void noRoomAfterAPartOfATrade() {
        ClearedExchange x = Setup.opened(10000);
        sells(x, 1, 0, 20);
        x.order(0, 0, true, Setup.IMMEDIATE, 500, 1);
        isRoomFor("after a half was met", x, 0);
        x.order(0, 0, true, Setup.IMMEDIATE, 500, 1);
        isRoomFor("after the other half was met", x, 1);
    }

    private static void roomAfterMeetingAnOwnOrder() {
        ClearedExchange x = Setup.opened(10000);
        sells(x, 1, 0, 1);
        sells(x, 0, 0, 19);
        x.order(1, 0, true, Setup.IMMEDIATE, 500, 1);
        isRoomFor("after an own order was met, and a half", x, 1);
    }

    private static void roomAfterAStop() {
        ClearedExchange x = Setup.opened(10000);
        x.order(1, 0, true, Setup.STOP, 500, 1);
        sells(x, 0, 0, 19);
        x.order(3, 0, true, Setup.IMMEDIATE, 500, 1);
        CHECK.due("the stop", x.state(1, 1), 2);
        isRoomFor("after a trade of 1 and a stop of 1", x, 2);
    }

    private static void roomAfterAnAuction() {
        ClearedExchange x = Setup.inCall(10000);
        sells(x, 1, 0, 19);
        x.order(0, 0, true, Setup.LIMIT, 500, 2);
        isRoomFor("before the auction", x, 0);
        CHECK.due("open", x.open(0), 1);
        isRoomFor("after the auction", x, 2);
    }

    private static void roomAfterADefault() {
        ClearedExchange x = Setup.withPositions(1000);
        for (int i = 0; i < 18; i++) {
            x.order(0, i % 2, false, i < 9 ? Setup.LIMIT : Setup.STOP, i < 9 ? 500 : 20, 1);
        }
        sells(x, 3, 1, 2);
        isRoomFor("before the default", x, 0);
        CHECK.due("settle", x.settle(70, 100), 1);
        isRoomFor("after the default", x, 18);
    }

    /** "As long as something of it is left": one order may meet all twenty. */
    private static void twentyMetByOne() {
        for (int quantity = 39; quantity <= 41; quantity++) {
            ClearedExchange x = Setup.opened(10000);
            sells(x, 1, 0, 20);
            x.order(0, 0, true, Setup.MARKET, 1, quantity);
            CHECK.due("trades", x.trades(), 20);
            CHECK.due("position", x.position(0, 0), Math.min(quantity, 40));
            CHECK.due("left of it", x.state(21, 0), quantity == 41 ? 1 : 0);
            CHECK.due("left of the last", x.state(20, 0), quantity == 39 ? 1 : 0);
            CHECK.due("state of the last", x.state(20, 1), quantity == 39 ? 0 : 2);
            CHECK.due("best", x.best(0, false), quantity == 39 ? 500 : 0);
        }
    }

    private static void twentyOwnMetByOne() {
        ClearedExchange x = Setup.opened(10000);
        sells(x, 0, 0, 19);
        sells(x, 1, 0, 1);
        x.order(0, 0, true, Setup.MARKET, 1, 1);
        CHECK.due("nineteen own ones are done, then a trade", x.trades(), 1);
        CHECK.due("an own one", x.state(19, 1), 2);
        CHECK.due("the other's", x.state(20, 0), 1);
        CHECK.due("position", x.position(0, 0), 1);
    }

    /** Ten buys and ten sells in an auction: nineteen trades, as each but the last ends one order alone. */
    private static void twentyInAnAuction() {
        ClearedExchange x = Setup.inCall(10000);
        for (int i = 0; i < 10; i++) {
            x.order(i % 4, 0, true, Setup.LIMIT, 100, 2);
            x.order((i + 1) % 4, 0, false, Setup.LIMIT, 100, i == 0 ? 1 : i == 9 ? 3 : 2);
        }
        CHECK.due("open", x.open(0), 19);
        CHECK.due("trades", x.trades(), 19);
        CHECK.due("no buy rests", x.best(0, true), 0);
        CHECK.due("no sell rests", x.best(0, false), 0);
        CHECK.due("the last order", x.state(20, 1), 2);
    }

    /** "As long as there is such a one": all twenty in the message that opens the contract. */
    private static void twentyStopsInOneMessage() {
        ClearedExchange x = Setup.withPositions(10000);
        x.call(0);
        for (int i = 0; i < 20; i++) {
            CHECK.due("stop " + i, x.order(i % 4, 0, i % 2 == 0, Setup.STOP, 100, 1), 3 + i);
        }
        CHECK.due("one more", x.order(0, 0, true, Setup.STOP, 100, 1), -4);
        CHECK.due("they wait in CALL", x.state(3, 1) + x.state(22, 1), 2);
        CHECK.due("open", x.open(0), 0);
        for (int i = 0; i < 20; i++) {
            CHECK.due("stop " + i, x.state(3 + i, 1), 2);
            CHECK.due("it lapsed", x.state(3 + i, 0), 1);
        }
        isRoomFor("after twenty stops", x, 20);
    }

    /** Each trade has its own price, so that it can be told from all others. */
    private static void trade(ClearedExchange x, int contract, int price) {
        x.order(0, contract, true, Setup.LIMIT, price, 1);
        x.order(1, contract, false, Setup.LIMIT, price, 1);
    }

    /** "The latest 16 are kept", and promise 28: "-1 when there was none such, k is not 0 .. 15". */
    private static void sixteenTradesAreKept() {
        for (int count = 14; count <= 18; count++) {
            ClearedExchange x = Setup.opened(10000);
            for (int i = 1; i <= count; i++) {
                trade(x, 0, 100 + i);
            }
            CHECK.due("trades", x.trades(), count);
            for (int k = 0; k < 20; k++) {
                int due = k < 16 && k < count ? 100 + count - k : -1;
                CHECK.due("trade " + k + " of " + count, x.trade(k, 3), due);
            }
        }
    }

    private static void tradesWrapAround() {
        for (int count : new int[] {31, 32, 33, 47, 48, 49, 160, 161}) {
            ClearedExchange x = Setup.opened(100000);
            for (int i = 1; i <= count; i++) {
                trade(x, 0, 100 + i);
            }
            CHECK.due("trades", x.trades(), count);
            CHECK.due("the latest", x.trade(0, 3), 100 + count);
            CHECK.due("the one before", x.trade(1, 3), 99 + count);
            CHECK.due("the oldest but one that is kept", x.trade(14, 3), 100 + count - 14);
            CHECK.due("the oldest that is kept", x.trade(15, 3), 100 + count - 15);
            CHECK.due("none before it", x.trade(16, 3), -1);
        }
    }

    private static void sixteenTradesOverBothContracts() {
        ClearedExchange x = Setup.opened(10000);
        for (int i = 1; i <= 17; i++) {
            trade(x, i % 2, 100 + i);
        }
        for (int k = 0; k < 16; k++) {
            CHECK.due("contract of " + k, x.trade(k, 2), (17 - k) % 2);
            CHECK.due("price of " + k, x.trade(k, 3), 117 - k);
        }
        CHECK.due("none before", x.trade(16, 2), -1);
    }

    /** "An object is used for at most 512 calls". */
    private static void callsToThe512thAreMessages() {
        ClearedExchange x = new ClearedExchange(0);
        for (int i = 1; i <= 512; i++) {
            CHECK.due("deposit " + i, x.deposit(3, 100000), 0);
        }
        ClearedExchange y = new ClearedExchange(0);
        for (int i = 1; i <= 511; i++) {
            CHECK.due("a refused message " + i, y.withdraw(0, 1), -5);
        }
        CHECK.due("the 512th", y.deposit(0, 1), 0);
    }

    private static void callsToThe512thAreOrders() {
        ClearedExchange x = new ClearedExchange(0);
        x.deposit(0, 100000);
        x.open(0);
        for (int i = 1; i <= 510; i++) {
            CHECK.due("order " + i, x.order(0, 0, true, Setup.IMMEDIATE, 100, 50), i);
        }
    }

    private static ClearedExchange after511Messages() {
        ClearedExchange x = new ClearedExchange(0);
        x.deposit(0, 100000);
        x.open(0);
        for (int i = 1; i <= 509; i++) {
            x.order(0, 0, true, Setup.IMMEDIATE, 100, 50);
        }
        return x;
    }

    private static void the512thCallIsAQuestion() {
        CHECK.due("messages", after511Messages().messages(), 511);
        CHECK.due("the last reply", after511Messages().reply(511), 509);
        CHECK.due("the last reply but one", after511Messages().reply(510), 508);
        CHECK.due("no reply after it", after511Messages().reply(512), -1);
        CHECK.due("the first reply", after511Messages().reply(1), 0);
        CHECK.due("left of the last order", after511Messages().state(509, 0), 50);
        CHECK.due("the last order", after511Messages().state(509, 1), 2);
        CHECK.due("no order after it", after511Messages().state(510, 1), -1);
        CHECK.due("cancel of the last order", after511Messages().cancel(509), 0);
        CHECK.due("spare", after511Messages().spare(0), 100000);
    }

    private static void the512thCallRecovers() {
        ClearedExchange x = new ClearedExchange(0);
        for (int i = 1; i <= 509; i++) {
            x.deposit(0, 1);
        }
        x.light(1);
        CHECK.due("the 511th call", x.deposit(0, 1), -9);
        CHECK.due("the 512th call", x.recover(), 510);
    }
}
