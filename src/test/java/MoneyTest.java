/** Promises 1 to 5, 16, 17 and 20: a new object, the payments, and what a member must keep. */
public final class MoneyTest {
    private static final Check CHECK = new Check("MoneyTest");

    public static void main(String[] args) {
        newObject();
        rateTakesFourBits();
        deposits();
        withdrawals();
        withdrawalsMustLeaveCover();
        contributions();
        endowments();
        defaultersMayNotPay();
        requirementIsRoundedUpForEachContract();
        exposureIsTheGreaterSide();
        equityCountsGains();
        CHECK.end();
    }

    private static void newObject() {
        ClearedExchange x = new ClearedExchange(0);
        CHECK.due("down", x.down(), false);
        CHECK.due("messages", x.messages(), 0);
        CHECK.due("trades", x.trades(), 0);
        for (int member = 0; member < 4; member++) {
            CHECK.due("share", x.share(member), 0);
            CHECK.due("spare", x.spare(member), 0);
            CHECK.due("defaulter", x.defaulter(member), false);
        }
        for (int member = 0; member < 5; member++) {
            CHECK.due("cash", x.cash(member), 0);
            for (int contract = 0; contract < 2; contract++) {
                CHECK.due("position", x.position(member, contract), 0);
                CHECK.due("cost", x.cost(member, contract), 0);
            }
        }
        for (int contract = 0; contract < 2; contract++) {
            CHECK.due("phase", x.phase(contract), 0);
            CHECK.due("last", x.last(contract), 0);
            CHECK.due("best buy", x.best(contract, true), 0);
            CHECK.due("best sell", x.best(contract, false), 0);
            CHECK.due("volume", x.volume(contract, true, 100), 0);
        }
        CHECK.due("state", x.state(1, 0), -1);
        CHECK.due("trade", x.trade(0, 0), -1);
        CHECK.due("reply", x.reply(1), -1);
        CHECK.due("recover", x.recover(), -1);
        // Far more than a fuse of the greatest length could answer.
        for (int i = 0; i < 300; i++) {
            CHECK.due("deposit without a fuse", x.deposit(0, 1), 0);
        }
    }

    private static void rateTakesFourBits() {
        int[] arguments = {0, 1, 15, 16, 31, -1, -16, Integer.MAX_VALUE, Integer.MIN_VALUE};
        int[] rates = {500, 600, 2000, 500, 2000, 2000, 500, 2000, 500};
        for (int i = 0; i < arguments.length; i++) {
            ClearedExchange x = new ClearedExchange(arguments[i]);
            x.deposit(0, 1000);
            x.order(0, 0, true, Setup.LIMIT, 1, 10);
            CHECK.due("spare at rate " + arguments[i], x.spare(0), 1000 - rates[i] / 10);
        }
    }

    private static void deposits() {
        ClearedExchange x = new ClearedExchange(0);
        CHECK.due("deposit least", x.deposit(0, 1), 0);
        CHECK.due("deposit most", x.deposit(0, 100000), 0);
        CHECK.due("deposit to the last member", x.deposit(3, 7), 0);
        CHECK.due("cash 0", x.cash(0), 100001);
        CHECK.due("cash 1", x.cash(1), 0);
        CHECK.due("cash 3", x.cash(3), 7);
        CHECK.due("capital", x.cash(4), 0);
        CHECK.due("share", x.share(0), 0);
        int[][] wrong = {{-1, 1}, {4, 1}, {0, 0}, {0, -5}, {0, 100001}, {Integer.MIN_VALUE, 1}, {0, Integer.MAX_VALUE}};
        for (int[] numbers : wrong) {
            CHECK.due("deposit out of range", x.deposit(numbers[0], numbers[1]), -1);
            CHECK.due("withdraw out of range", x.withdraw(numbers[0], numbers[1]), -1);
            CHECK.due("contribute out of range", x.contribute(numbers[0], numbers[1]), -1);
        }
        CHECK.due("messages", x.messages(), 3);
        CHECK.due("cash 0 after wrong calls", x.cash(0), 100001);
        CHECK.due("cash of no member", x.cash(-1), -1);
        CHECK.due("cash of no member", x.cash(5), -1);
        CHECK.due("share of no member", x.share(-1), -1);
        CHECK.due("share of the house", x.share(4), -1);
    }

    private static void withdrawals() {
        ClearedExchange x = new ClearedExchange(0);
        CHECK.due("withdraw from nothing", x.withdraw(0, 1), -5);
        x.deposit(0, 100000);
        x.deposit(0, 100);
        CHECK.due("withdraw most", x.withdraw(0, 100000), 0);
        CHECK.due("withdraw too much", x.withdraw(0, 101), -5);
        CHECK.due("cash", x.cash(0), 100);
        CHECK.due("withdraw all", x.withdraw(0, 100), 0);
        CHECK.due("cash", x.cash(0), 0);
        CHECK.due("share", x.share(0), 0);
        CHECK.due("messages", x.messages(), 6);
    }

    private static void withdrawalsMustLeaveCover() {
        ClearedExchange x = Setup.opened(1000);
        x.order(0, 0, true, Setup.LIMIT, 50, 50);
        CHECK.due("spare", x.spare(0), 750);
        CHECK.due("withdraw beyond cover", x.withdraw(0, 751), -5);
        CHECK.due("contribute beyond cover", x.contribute(0, 751), -5);
        CHECK.due("withdraw to the cover", x.withdraw(0, 750), 0);
        CHECK.due("spare", x.spare(0), 0);
        CHECK.due("withdraw one more", x.withdraw(0, 1), -5);

        // Gains that are not settled yet cover, but can't be taken out: equity is no cash.
        ClearedExchange y = Setup.opened(300);
        y.deposit(1, 100000);
        y.order(1, 0, false, Setup.LIMIT, 50, 50);
        y.order(0, 0, true, Setup.LIMIT, 50, 50);
        CHECK.due("equity is above cash", y.spare(0), 300 + 2500 - 250);
        CHECK.due("withdraw beyond cash", y.withdraw(0, 301), -5);
        CHECK.due("contribute beyond cash", y.contribute(0, 301), -5);
        CHECK.due("withdraw all cash", y.withdraw(0, 300), 0);
    }

    private static void contributions() {
        ClearedExchange x = Setup.inCall(500);
        CHECK.due("contribute", x.contribute(2, 200), 0);
        CHECK.due("contribute too much", x.contribute(2, 301), -5);
        CHECK.due("contribute the rest", x.contribute(2, 300), 0);
        CHECK.due("cash", x.cash(2), 0);
        CHECK.due("share", x.share(2), 500);
        CHECK.due("a share is no equity", x.spare(2), 0);
        CHECK.due("share of another", x.share(1), 0);
        CHECK.due("capital", x.cash(4), 0);
    }

    private static void endowments() {
        ClearedExchange x = new ClearedExchange(0);
        CHECK.due("endow least", x.endow(1), 0);
        CHECK.due("endow most", x.endow(100000), 0);
        CHECK.due("endow nothing", x.endow(0), -1);
        CHECK.due("endow below nothing", x.endow(-1), -1);
        CHECK.due("endow too much", x.endow(100001), -1);
        CHECK.due("capital", x.cash(4), 100001);
        CHECK.due("messages", x.messages(), 2);
    }

    private static void defaultersMayNotPay() {
        ClearedExchange x = Setup.withPositions(1000);
        x.settle(70, 100);
        CHECK.due("defaulter", x.defaulter(0), true);
        CHECK.due("deposit", x.deposit(0, 1), -2);
        CHECK.due("withdraw", x.withdraw(0, 1), -2);
        CHECK.due("contribute", x.contribute(0, 1), -2);
        CHECK.due("cash", x.cash(0), 0);
        CHECK.due("refused payments are messages", x.messages(), 12);
        CHECK.due("reply", x.reply(12), -2);
        CHECK.due("another may pay", x.deposit(1, 1), 0);
    }

    private static void requirementIsRoundedUpForEachContract() {
        ClearedExchange x = new ClearedExchange(1);
        x.deposit(0, 100);
        x.settle(101, 99);
        x.order(0, 0, true, Setup.LIMIT, 10, 1);
        CHECK.due("600 * 101 / 10000 rounded up", x.spare(0), 100 - 7);
        x.order(0, 1, false, Setup.LIMIT, 10, 1);
        CHECK.due("and 600 * 99 / 10000 rounded up", x.spare(0), 100 - 7 - 6);
        ClearedExchange y = new ClearedExchange(0);
        y.deposit(0, 100);
        y.order(0, 0, true, Setup.LIMIT, 10, 2);
        CHECK.due("what is even is not rounded", y.spare(0), 90);
    }

    private static void exposureIsTheGreaterSide() {
        ClearedExchange x = Setup.opened(1000);
        x.order(0, 0, true, Setup.LIMIT, 90, 10);
        CHECK.due("buys", x.spare(0), 950);
        x.order(0, 0, false, Setup.LIMIT, 110, 6);
        CHECK.due("fewer sells", x.spare(0), 950);
        x.order(0, 0, false, Setup.STOP, 50, 8);
        CHECK.due("sells with a waiting stop", x.spare(0), 930);
        x.order(1, 0, false, Setup.LIMIT, 90, 4);
        CHECK.due("position 4, buys 6, sells 14, a gain of 40", x.spare(0), 1000 + 40 - 50);
        CHECK.due("position -4 with a gain of -40", x.spare(1), 1000 - 40 - 20);
        CHECK.due("spare of no member", x.spare(-1), -1);
        CHECK.due("spare of the house", x.spare(4), -1);
    }

    private static void equityCountsGains() {
        ClearedExchange x = Setup.opened(1000);
        x.order(0, 1, true, Setup.LIMIT, 110, 10);
        x.order(1, 1, false, Setup.LIMIT, 110, 10);
        CHECK.due("bought above the mark", x.spare(0), 1000 - 100 - 50);
        CHECK.due("sold above the mark", x.spare(1), 1000 + 100 - 50);
        x.settle(100, 120);
        CHECK.due("after a settlement, bought", x.spare(0), 1000 + 100 - 60);
        CHECK.due("after a settlement, sold", x.spare(1), 1000 - 100 - 60);
    }
}
