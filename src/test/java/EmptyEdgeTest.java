/** What is empty: before there is a first one, with just one, and when the only one is gone again. */
public final class EmptyEdgeTest {
    private static final Check CHECK = new Check("EmptyEdgeTest");

    public static void main(String[] args) {
        nothingIsThereAtFirst();
        bestWithoutOrders();
        bestOfWhatRestsAlone();
        volumeWithoutOrders();
        lastWithoutTrades();
        lastStays();
        auctionWithoutOrders();
        auctionWithOneSide();
        auctionJustWithoutVolume();
        auctionAfterACancel();
        replyWithoutMessages();
        tradeWithoutTrades();
        cancelWithoutOrders();
        cancelOfWhatIsDone();
        stateWithoutOrders();
        stopsWithoutLast();
        settlementWithoutPositions();
        closingOfNothing();
        closingAgainstNothing();
        recoveringAnEmptyJournal();
        CHECK.end();
    }

    /** Promise 1: "Nothing is there; no fuse." */
    private static void nothingIsThereAtFirst() {
        ClearedExchange x = new ClearedExchange(0);
        long[] row = Snapshot.of(x);
        // trades, then for each member and the house cash, share, spare, defaulter and twice position and cost, then
        // for each contract phase, last and twice best and volume, then 25 orders, then 4 trades.
        CHECK.due("answers", row.length, 1 + 5 * 8 + 2 * 6 + 25 * 2 + 4 * 5);
        for (int i = 0; i < row.length; i++) {
            boolean none = i == 34 || i == 35 || i > 52;
            CHECK.due("answer " + i + " of a new object", row[i], none ? -1 : 0);
        }
        CHECK.due("messages", x.messages(), 0);
        CHECK.due("down", x.down(), false);
        CHECK.due("recover", x.recover(), -1);
        for (int i = 0; i < 202; i++) {
            CHECK.due("message " + i + " without a fuse", x.endow(1), 0);
        }
    }

    /** Promise 22: "0 when there are none". */
    private static void bestWithoutOrders() {
        for (int contract = 0; contract < 2; contract++) {
            for (int side = 0; side < 2; side++) {
                boolean buy = side == 1;
                ClearedExchange x = Setup.inCall(1000);
                CHECK.due("best at first", x.best(contract, buy), 0);
                x.order(0, contract, buy, Setup.LIMIT, 1, 1);
                CHECK.due("best of one at 1", x.best(contract, buy), 1);
                CHECK.due("best of the other side", x.best(contract, !buy), 0);
                CHECK.due("best of the other contract", x.best(1 - contract, buy), 0);
                x.order(0, contract, buy, Setup.LIMIT, 1000, 1);
                CHECK.due("best of 1 and 1000", x.best(contract, buy), buy ? 1000 : 1);
                x.cancel(buy ? 2 : 1);
                CHECK.due("best after a cancel", x.best(contract, buy), buy ? 1 : 1000);
                x.cancel(buy ? 1 : 2);
                CHECK.due("best when all are gone", x.best(contract, buy), 0);
            }
        }
    }

    private static void bestOfWhatRestsAlone() {
        ClearedExchange x = Setup.opened(1000);
        x.order(0, 0, true, Setup.STOP, 500, 1);
        x.order(0, 0, true, Setup.IMMEDIATE, 500, 1);
        x.order(0, 0, true, Setup.MARKET, 500, 1);
        CHECK.due("neither a stop nor what lapsed rests", x.best(0, true), 0);
        x.order(0, 0, true, Setup.PASSIVE, 50, 1);
        CHECK.due("a PASSIVE one rests", x.best(0, true), 50);
        x.order(1, 0, false, Setup.LIMIT, 50, 1);
        CHECK.due("what was met is gone", x.best(0, true), 0);
        CHECK.due("and what met it never rested", x.best(0, false), 0);
    }

    private static void volumeWithoutOrders() {
        ClearedExchange x = Setup.opened(1000);
        CHECK.due("volume at first", x.volume(0, true, 100), 0);
        x.order(0, 0, true, Setup.LIMIT, 100, 1);
        CHECK.due("volume of 1", x.volume(0, true, 100), 1);
        x.order(1, 0, true, Setup.LIMIT, 100, 50);
        CHECK.due("volume of 51", x.volume(0, true, 100), 51);
        x.order(2, 0, false, Setup.LIMIT, 100, 50);
        CHECK.due("volume of what is left", x.volume(0, true, 100), 1);
        x.order(2, 0, false, Setup.LIMIT, 100, 1);
        CHECK.due("volume when all are gone", x.volume(0, true, 100), 0);
    }

    /** Promise 24: "0 when there is none". */
    private static void lastWithoutTrades() {
        for (int price : new int[] {1, 2, 999, 1000}) {
            ClearedExchange x = Setup.opened(1000);
            x.order(0, 0, true, Setup.LIMIT, price, 1);
            CHECK.due("last without a trade", x.last(0), 0);
            x.order(1, 0, false, Setup.LIMIT, price, 1);
            CHECK.due("last of a trade at " + price, x.last(0), price);
            CHECK.due("last of the other", x.last(1), 0);
        }
        ClearedExchange y = Setup.opened(1000);
        y.order(0, 0, true, Setup.LIMIT, 100, 1);
        y.order(0, 0, false, Setup.LIMIT, 100, 1);
        CHECK.due("an own order that was met is no trade", y.last(0), 0);
        y.settle(120, 100);
        CHECK.due("a mark is no last", y.last(0), 0);
    }

    private static void lastStays() {
        ClearedExchange x = Setup.withPositions(10000);
        x.call(0);
        CHECK.due("over a call", x.last(0), 100);
        x.open(0);
        CHECK.due("over an auction without trades", x.last(0), 100);
        x.settle(90, 100);
        CHECK.due("over a settlement", x.last(0), 100);
    }

    /** "Without volume there are no trades. Then the contract is OPEN." */
    private static void auctionWithoutOrders() {
        ClearedExchange x = new ClearedExchange(0);
        CHECK.due("open without orders", x.open(0), 0);
        CHECK.due("phase", x.phase(0), 1);
        CHECK.due("trades", x.trades(), 0);
        CHECK.due("last", x.last(0), 0);
    }

    private static void auctionWithOneSide() {
        for (int side = 0; side < 2; side++) {
            ClearedExchange x = Setup.inCall(1000);
            x.order(0, 0, side == 1, Setup.LIMIT, 100, 5);
            x.order(1, 0, side == 1, Setup.LIMIT, 1, 5);
            x.order(2, 0, side == 0, Setup.STOP, 100, 5);
            CHECK.due("open with one side", x.open(0), 0);
            CHECK.due("phase", x.phase(0), 1);
            CHECK.due("they rest still", x.state(1, 0) + x.state(2, 0), 10);
            CHECK.due("last", x.last(0), 0);
            CHECK.due("the stop waits", x.state(3, 1), 1);
        }
    }

    private static void auctionJustWithoutVolume() {
        for (int price = 99; price <= 101; price++) {
            ClearedExchange x = Setup.inCall(1000);
            x.order(0, 0, true, Setup.LIMIT, 100, 1);
            x.order(1, 0, false, Setup.LIMIT, price, 1);
            int due = price <= 100 ? 1 : 0;
            CHECK.due("open with a buy at 100 and a sell at " + price, x.open(0), due);
            CHECK.due("trades", x.trades(), due);
            CHECK.due("best buy", x.best(0, true), due == 1 ? 0 : 100);
            CHECK.due("best sell", x.best(0, false), due == 1 ? 0 : price);
        }
    }

    private static void auctionAfterACancel() {
        ClearedExchange x = Setup.inCall(1000);
        x.order(0, 0, true, Setup.LIMIT, 100, 1);
        x.order(1, 0, false, Setup.LIMIT, 100, 1);
        x.cancel(2);
        CHECK.due("open", x.open(0), 0);
        CHECK.due("the other rests still", x.state(1, 1), 0);
    }

    /** Promise 15: "-1 when there is none". */
    private static void replyWithoutMessages() {
        ClearedExchange x = new ClearedExchange(0);
        CHECK.due("reply at first", x.reply(1), -1);
        x.deposit(0, 0);
        CHECK.due("reply to a wrong call", x.reply(1), -1);
        x.cash(0);
        x.light(5);
        CHECK.due("reply to questions and a lighting", x.reply(1), -1);
        x.call(0);
        CHECK.due("reply to the first", x.reply(1), 0);
        CHECK.due("reply to the second", x.reply(2), -1);
        CHECK.due("reply to none", x.reply(0), -1);
    }

    /** Promise 28: "-1 when there was none such". */
    private static void tradeWithoutTrades() {
        ClearedExchange x = Setup.opened(1000);
        for (int w = 0; w < 5; w++) {
            CHECK.due("trade at first", x.trade(0, w), -1);
        }
        x.order(3, 1, true, Setup.LIMIT, 100, 7);
        x.order(2, 1, false, Setup.LIMIT, 100, 7);
        int[] due = {3, 2, 1, 100, 7};
        for (int w = 0; w < 5; w++) {
            CHECK.due("the first trade", x.trade(0, w), due[w]);
            CHECK.due("none before it", x.trade(1, w), -1);
        }
        CHECK.due("trades", x.trades(), 1);
    }

    /** Promise 7: "0 when there is none such with that number". */
    private static void cancelWithoutOrders() {
        ClearedExchange x = Setup.inCall(1000);
        CHECK.due("cancel at first", x.cancel(1), 0);
        x.order(0, 0, true, Setup.LIMIT, 100, 1);
        CHECK.due("cancel of the next", x.cancel(2), 0);
        CHECK.due("cancel of the first", x.cancel(1), 1);
        CHECK.due("cancel again", x.cancel(1), 0);
        CHECK.due("they are messages", x.messages(), 4 + 5);
    }

    private static void cancelOfWhatIsDone() {
        ClearedExchange x = Setup.opened(1000);
        x.order(0, 0, true, Setup.IMMEDIATE, 100, 9);
        CHECK.due("cancel of what lapsed", x.cancel(1), 0);
        CHECK.due("what lapsed is told still", x.state(1, 0), 9);
        x.order(0, 0, true, Setup.LIMIT, 100, 1);
        x.order(1, 0, false, Setup.LIMIT, 100, 1);
        CHECK.due("cancel of what was met", x.cancel(2), 0);
        CHECK.due("cancel of what met it", x.cancel(3), 0);
        x.order(0, 0, true, Setup.STOP, 100, 5);
        CHECK.due("cancel of a stop that became MARKET", x.cancel(4), 0);
        CHECK.due("it lapsed", x.state(4, 0), 5);
        x.order(2, 0, false, Setup.LIMIT, 100, 50);
        x.order(0, 0, true, Setup.IMMEDIATE, 100, 49);
        CHECK.due("cancel of the last 1", x.cancel(5), 1);
    }

    /** Promise 26: "-1 when there is none with that number". */
    private static void stateWithoutOrders() {
        ClearedExchange x = Setup.inCall(1000);
        CHECK.due("state at first", x.state(1, 1), -1);
        CHECK.due("left at first", x.state(1, 0), -1);
        x.order(0, 0, true, Setup.MARKET, 100, 1);
        CHECK.due("state after a refused order", x.state(1, 1), -1);
        x.order(0, 0, true, Setup.LIMIT, 100, 1);
        CHECK.due("state of the first", x.state(1, 1), 0);
        CHECK.due("state of none", x.state(0, 1), -1);
        CHECK.due("state of the second", x.state(2, 1), -1);
    }

    /** "Of contracts that are OPEN and have a LAST". */
    private static void stopsWithoutLast() {
        ClearedExchange x = Setup.opened(1000);
        x.order(0, 0, true, Setup.STOP, 1, 1);
        x.order(0, 0, false, Setup.STOP, 1000, 1);
        x.order(0, 0, false, Setup.STOP, 1, 1);
        x.settle(50, 50);
        CHECK.due("they wait", x.state(1, 1) + x.state(2, 1) + x.state(3, 1), 3);
        x.order(1, 0, true, Setup.LIMIT, 2, 1);
        x.order(2, 0, false, Setup.LIMIT, 2, 1);
        CHECK.due("a buy at 1 by a LAST of 2", x.state(1, 1), 2);
        CHECK.due("a sell at 1000 by a LAST of 2", x.state(2, 1), 2);
        CHECK.due("a sell at 1 waits", x.state(3, 1), 1);
    }

    private static void settlementWithoutPositions() {
        ClearedExchange x = new ClearedExchange(0);
        CHECK.due("settle of a new object", x.settle(1, 1000), 0);
        for (int member = 0; member < 5; member++) {
            CHECK.due("cash", x.cash(member), 0);
            CHECK.due("defaulter", x.defaulter(member), false);
        }
    }

    /** A defaulter has nothing of contract 1, where a sell and a buy rest: nothing is matched there. */
    private static void closingOfNothing() {
        ClearedExchange x = Setup.withPositions(1000);
        x.order(1, 1, true, Setup.LIMIT, 90, 5);
        x.order(2, 1, false, Setup.LIMIT, 110, 5);
        CHECK.due("settle", x.settle(70, 100), 1);
        CHECK.due("trades", x.trades(), 1);
        CHECK.due("the buy", x.state(3, 0), 5);
        CHECK.due("the sell", x.state(4, 0), 5);
        CHECK.due("the house's position", x.position(4, 1), 0);
        CHECK.due("its cost", x.cost(4, 1), 0);
    }

    private static void closingAgainstNothing() {
        ClearedExchange x = Setup.withDefaulter();
        CHECK.due("no trade", x.trades(), 1);
        CHECK.due("all goes to the house", x.position(4, 0), 50);
        CHECK.due("nothing is left", x.position(0, 0), 0);
        CHECK.due("last", x.last(0), 100);
    }

    private static void recoveringAnEmptyJournal() {
        ClearedExchange x = new ClearedExchange(0);
        x.light(0);
        CHECK.due("not written", x.deposit(0, 1), -9);
        CHECK.due("recover", x.recover(), 0);
        CHECK.due("messages", x.messages(), 0);
        CHECK.due("reply", x.reply(1), -1);
        CHECK.due("cash", x.cash(0), 0);
        CHECK.due("recover again", x.recover(), -1);
    }
}
