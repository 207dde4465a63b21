/** Promises 10, 16 to 19 and 21: settlements, closing out, and who bears the loss. */
public final class SettlementTest {
    private static final Check CHECK = new Check("SettlementTest");

    public static void main(String[] args) {
        ranges();
        gainsArePaidOver();
        zeroCashIsNoDefault();
        ordersOfADefaulterLapse();
        closesInTheMarket();
        closesAShortPosition();
        doesNotCloseInCall();
        closingFiresStops();
        closingMayLeaveCash();
        lossTakesTheOwnShareFirst();
        lossTakesTheCapitalNext();
        lossIsSharedByGreatestRemainders();
        equalRemaindersGoToTheLeastNumbers();
        defaultersDoNotShare();
        laterDefaulterStillShares();
        capitalMayFallBelowZero();
        capitalBelowZeroIsNoCover();
        houseSettlesToo();
        bothContractsAreClosed();
        CHECK.end();
    }

    private static void ranges() {
        ClearedExchange x = new ClearedExchange(0);
        int[][] wrong = {{0, 100}, {1001, 100}, {100, 0}, {100, 1001}, {-1, 100}, {100, Integer.MIN_VALUE}};
        for (int[] marks : wrong) {
            CHECK.due("settle out of range", x.settle(marks[0], marks[1]), -1);
        }
        CHECK.due("messages", x.messages(), 0);
        CHECK.due("edges", x.settle(1, 1000), 0);
        CHECK.due("edges", x.settle(1000, 1), 0);
        CHECK.due("messages", x.messages(), 2);
        CHECK.due("defaulter of none", x.defaulter(-1), false);
        CHECK.due("defaulter of the house", x.defaulter(4), false);
    }

    private static void gainsArePaidOver() {
        ClearedExchange x = Setup.withPositions(10000);
        CHECK.due("cost", x.cost(0, 0), 5000);
        CHECK.due("settle", x.settle(110, 100), 0);
        CHECK.due("cash of the buyer", x.cash(0), 10500);
        CHECK.due("cash of the seller", x.cash(3), 9500);
        CHECK.due("cost of the buyer", x.cost(0, 0), 5500);
        CHECK.due("cost of the seller", x.cost(3, 0), -5500);
        CHECK.due("position", x.position(0, 0), 50);
        CHECK.due("the same marks again pay nothing", x.settle(110, 100), 0);
        CHECK.due("cash", x.cash(0), 10500);
        CHECK.due("spare by the new mark", x.spare(0), 10500 - 275);
        CHECK.due("cost of none", x.cost(5, 0), -1);
        CHECK.due("cost of none", x.cost(-1, 0), -1);
        CHECK.due("cost of none", x.cost(0, 2), -1);
        CHECK.due("cost of none", x.cost(0, -1), -1);
        CHECK.due("position of none", x.position(5, 0), -1);
        CHECK.due("position of none", x.position(-1, 0), -1);
        CHECK.due("position of none", x.position(0, 2), -1);
        CHECK.due("position of none", x.position(0, -1), -1);
    }

    private static void zeroCashIsNoDefault() {
        ClearedExchange x = Setup.withPositions(1000);
        CHECK.due("settle", x.settle(80, 100), 0);
        CHECK.due("cash", x.cash(0), 0);
        CHECK.due("defaulter", x.defaulter(0), false);
        CHECK.due("spare below 0", x.spare(0), -200);
        CHECK.due("one less", x.settle(79, 100), 1);
        CHECK.due("defaulter", x.defaulter(0), true);
        CHECK.due("only once", x.settle(79, 100), 0);
    }

    private static void ordersOfADefaulterLapse() {
        ClearedExchange x = Setup.withPositions(1000);
        x.order(0, 0, true, Setup.LIMIT, 20, 3);
        x.order(0, 1, false, Setup.STOP, 20, 4);
        x.order(1, 1, false, Setup.LIMIT, 120, 5);
        x.settle(70, 100);
        CHECK.due("resting order", x.state(3, 1), 2);
        CHECK.due("3 lapsed", x.state(3, 0), 3);
        CHECK.due("stop", x.state(4, 1), 2);
        CHECK.due("4 lapsed", x.state(4, 0), 4);
        CHECK.due("order of another", x.state(5, 1), 0);
        CHECK.due("its requirement is gone", x.spare(0), 0);
    }

    private static void closesInTheMarket() {
        ClearedExchange x = Setup.withPositions(1000);
        x.deposit(1, 10000);
        x.endow(10000);
        x.order(1, 0, true, Setup.LIMIT, 69, 10);
        x.order(1, 0, true, Setup.LIMIT, 60, 15);
        x.order(0, 0, true, Setup.LIMIT, 65, 5);
        CHECK.due("settle", x.settle(70, 100), 1);
        CHECK.due("the closing has no number", x.order(1, 0, true, Setup.LIMIT, 1, 1), 6);
        CHECK.due("two closing trades", x.trades(), 3);
        CHECK.due("seller", x.trade(1, 1), 0);
        CHECK.due("first price", x.trade(1, 3), 69);
        CHECK.due("second price", x.trade(0, 3), 60);
        CHECK.due("second quantity", x.trade(0, 4), 15);
        CHECK.due("the rest goes to the house", x.position(4, 0), 25);
        CHECK.due("at the mark", x.cost(4, 0), 25 * 70);
        CHECK.due("position of the defaulter", x.position(0, 0), 0);
        CHECK.due("cost of the defaulter", x.cost(0, 0), 0);
        CHECK.due("cash of the defaulter", x.cash(0), 0);
        CHECK.due("loss of 500, and 10 and 150 in the market", x.cash(4), 10000 - 500 - 10 - 150);
        CHECK.due("cost of who bought", x.cost(1, 0), 690 + 900);
        CHECK.due("its cash is not settled yet", x.cash(1), 11000);
    }

    private static void closesAShortPosition() {
        ClearedExchange x = Setup.opened(1000);
        x.deposit(1, 10000);
        x.endow(10000);
        x.order(0, 1, false, Setup.LIMIT, 100, 50);
        x.order(1, 1, true, Setup.LIMIT, 100, 50);
        x.order(2, 1, false, Setup.LIMIT, 135, 10);
        x.order(2, 1, false, Setup.LIMIT, 1000, 10);
        CHECK.due("settle", x.settle(100, 130), 1);
        CHECK.due("at every price", x.last(1), 1000);
        CHECK.due("buyer", x.trade(0, 0), 0);
        CHECK.due("the house is short now", x.position(4, 1), -30);
        CHECK.due("at the mark", x.cost(4, 1), -3900);
        CHECK.due("capital", x.cash(4), 10000 - 500 - 50 - 8700);
        CHECK.due("position", x.position(0, 1), 0);
    }

    private static void doesNotCloseInCall() {
        ClearedExchange x = Setup.withPositions(1000);
        x.order(1, 0, true, Setup.LIMIT, 69, 10);
        x.call(0);
        CHECK.due("settle", x.settle(70, 100), 1);
        CHECK.due("no trade in CALL", x.trades(), 1);
        CHECK.due("all goes to the house", x.position(4, 0), 50);
        CHECK.due("the order still rests", x.state(3, 0), 10);
    }

    private static void closingFiresStops() {
        ClearedExchange x = Setup.withPositions(1000);
        x.endow(10000);
        x.deposit(1, 10000);
        x.deposit(2, 10000);
        // The closing of contract 0 fires the stop there, before contract 1 is closed.
        x.order(0, 1, true, Setup.LIMIT, 100, 10);
        x.order(3, 1, false, Setup.LIMIT, 100, 10);
        x.order(2, 0, false, Setup.STOP, 80, 2);
        x.order(1, 0, true, Setup.LIMIT, 75, 50);
        x.order(1, 0, true, Setup.LIMIT, 60, 5);
        x.order(1, 1, true, Setup.LIMIT, 95, 10);
        CHECK.due("settle", x.settle(70, 100), 1);
        CHECK.due("trades", x.trades(), 5);
        CHECK.due("closing of contract 0", x.trade(2, 3), 75);
        CHECK.due("then the stop", x.trade(1, 1), 2);
        CHECK.due("at 60", x.trade(1, 3), 60);
        CHECK.due("then the closing of contract 1", x.trade(0, 2), 1);
        CHECK.due("its price", x.trade(0, 3), 95);
        CHECK.due("stop", x.state(5, 1), 2);
    }

    private static void closingMayLeaveCash() {
        ClearedExchange x = Setup.withPositions(1000);
        x.deposit(1, 10000);
        x.contribute(0, 20);
        x.order(1, 0, true, Setup.LIMIT, 90, 50);
        CHECK.due("a default", x.settle(79, 100), 1);
        CHECK.due("sold better than the mark, so cash is left", x.cash(0), 980 - 1050 + 550);
        CHECK.due("the share is kept", x.share(0), 20);
        CHECK.due("a defaulter all the same", x.defaulter(0), true);
        CHECK.due("no loss", x.cash(4), 0);
        CHECK.due("it can't take it out", x.withdraw(0, 1), -2);
    }

    private static void lossTakesTheOwnShareFirst() {
        ClearedExchange x = Setup.withPositions(1000);
        x.endow(100);
        x.contribute(0, 500);
        x.contribute(1, 500);
        CHECK.due("cash 500, loss 500", x.settle(80, 100), 1);
        CHECK.due("own share", x.share(0), 0);
        CHECK.due("capital", x.cash(4), 100);
        CHECK.due("share of another", x.share(1), 500);
        ClearedExchange y = Setup.withPositions(1000);
        y.contribute(0, 500);
        y.settle(81, 100);
        CHECK.due("part of the own share", y.share(0), 50);
        CHECK.due("the cash is 0", y.cash(0), 0);
    }

    private static void lossTakesTheCapitalNext() {
        ClearedExchange x = Setup.withPositions(1000);
        x.endow(300);
        x.contribute(1, 500);
        x.contribute(0, 100);
        x.settle(75, 100);
        CHECK.due("loss 350, own share 100, capital 250", x.cash(4), 50);
        CHECK.due("share of another", x.share(1), 500);
    }

    private static void lossIsSharedByGreatestRemainders() {
        ClearedExchange x = Setup.withPositions(1000);
        x.contribute(1, 100);
        x.contribute(2, 101);
        x.contribute(3, 199);
        // A loss of 50 of 400: 12 and 200/400, 12 and 250/400, 24 and 350/400, so 2 more are to pay.
        CHECK.due("settle", x.settle(79, 100), 1);
        CHECK.due("share 1", x.share(1), 88);
        CHECK.due("share 2", x.share(2), 88);
        CHECK.due("share 3", x.share(3), 174);
        CHECK.due("capital", x.cash(4), 0);
    }

    private static void equalRemaindersGoToTheLeastNumbers() {
        ClearedExchange x = Setup.withPositions(1000);
        x.contribute(1, 100);
        x.contribute(2, 100);
        x.contribute(3, 100);
        x.settle(79, 100);
        CHECK.due("share 1", x.share(1), 83);
        CHECK.due("share 2", x.share(2), 83);
        CHECK.due("share 3", x.share(3), 84);
    }

    private static void defaultersDoNotShare() {
        ClearedExchange x = Setup.opened(1000);
        x.deposit(3, 20000);
        x.contribute(1, 300);
        // Member 1 is closed out better than at the mark, so that it keeps its share.
        x.order(3, 0, false, Setup.LIMIT, 100, 50);
        x.order(1, 0, true, Setup.LIMIT, 100, 50);
        x.order(3, 0, true, Setup.LIMIT, 95, 50);
        CHECK.due("settle", x.settle(85, 100), 1);
        CHECK.due("share of the defaulter", x.share(1), 300);
        x.contribute(2, 200);
        x.order(3, 1, false, Setup.LIMIT, 100, 50);
        x.order(0, 1, true, Setup.LIMIT, 100, 50);
        CHECK.due("settle", x.settle(85, 79), 1);
        CHECK.due("an earlier defaulter pays nothing", x.share(1), 300);
        CHECK.due("the other pays all", x.share(2), 150);
    }

    private static void laterDefaulterStillShares() {
        // Members 0 and 1 both can't pay; 0 is closed out first, and 1 is no defaulter then.
        ClearedExchange x = Setup.opened(1000);
        x.deposit(3, 20000);
        x.contribute(1, 100);
        x.order(3, 0, false, Setup.LIMIT, 100, 50);
        x.order(0, 0, true, Setup.LIMIT, 100, 50);
        x.order(3, 0, false, Setup.LIMIT, 100, 50);
        x.order(1, 0, true, Setup.LIMIT, 100, 50);
        CHECK.due("two defaults", x.settle(79, 100), 2);
        CHECK.due("share of 1", x.share(1), 0);
        CHECK.due("50 by that share, then 150 - 50 by the capital", x.cash(4), -100);
        CHECK.due("the house has both positions", x.position(4, 0), 100);
    }

    private static void capitalMayFallBelowZero() {
        ClearedExchange x = Setup.withPositions(1000);
        x.endow(10);
        x.contribute(1, 20);
        x.contribute(2, 5);
        x.settle(79, 100);
        CHECK.due("share 1", x.share(1), 0);
        CHECK.due("share 2", x.share(2), 0);
        CHECK.due("capital", x.cash(4), -15);
    }

    private static void capitalBelowZeroIsNoCover() {
        ClearedExchange x = Setup.withPositions(1000);
        x.deposit(3, 20000);
        x.settle(79, 100);
        CHECK.due("capital", x.cash(4), -50);
        x.order(3, 1, false, Setup.LIMIT, 100, 50);
        x.order(1, 1, true, Setup.LIMIT, 100, 50);
        x.contribute(2, 30);
        x.settle(79, 79);
        CHECK.due("the fund pays", x.share(2), 0);
        CHECK.due("the capital bears the rest", x.cash(4), -50 - 20);
        x.endow(100);
        CHECK.due("endow", x.cash(4), 30);
    }

    private static void houseSettlesToo() {
        ClearedExchange x = Setup.withPositions(1000);
        x.endow(1000);
        x.settle(70, 100);
        CHECK.due("capital", x.cash(4), 500);
        x.settle(71, 100);
        CHECK.due("the house gains", x.cash(4), 550);
        CHECK.due("its cost", x.cost(4, 0), 50 * 71);
        x.settle(1, 100);
        CHECK.due("the house loses, and is no member", x.cash(4), 550 - 3500);
        CHECK.due("position", x.position(4, 0), 50);
    }

    private static void bothContractsAreClosed() {
        ClearedExchange x = Setup.opened(1000);
        x.deposit(3, 20000);
        x.order(3, 0, false, Setup.LIMIT, 100, 50);
        x.order(0, 0, true, Setup.LIMIT, 100, 50);
        x.order(3, 1, true, Setup.LIMIT, 100, 30);
        x.order(0, 1, false, Setup.LIMIT, 100, 30);
        CHECK.due("settle", x.settle(85, 115), 1);
        CHECK.due("house 0", x.position(4, 0), 50);
        CHECK.due("house 1", x.position(4, 1), -30);
        CHECK.due("cost 0", x.cost(4, 0), 4250);
        CHECK.due("cost 1", x.cost(4, 1), -3450);
        CHECK.due("capital", x.cash(4), 1000 - 750 - 450);
        CHECK.due("cash of the other side", x.cash(3), 21000 + 750 + 450);
    }
}
