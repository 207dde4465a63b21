/** The refused calls: where each refusal begins and ends, which comes first, and that it leaves all as it was. */
public final class RefusalEdgeTest {
    private static final Check CHECK = new Check("RefusalEdgeTest");
    private static final int[] ALL_KINDS = {0, 1, 2, 3, 4, 5};

    public static void main(String[] args) {
        defaultersDeposit();
        defaultersWithdraw();
        defaultersContribute();
        defaultersOrder();
        kindsInCall();
        openOfAnOpenContract();
        twentyRestOrWait();
        coverOfEveryKind();
        coverOfEverySide();
        coverOverBothContracts();
        coverAtTheMarkNotThePrice();
        coverBesideAPosition();
        coverByGains();
        coverOfOneThatIsNotCovered();
        coverOfAnOrderThatWouldTradeAtOnce();
        withdrawDownToNoCash();
        withdrawDownToTheCover();
        contributeDownToNoCash();
        contributeDownToTheCover();
        passiveBuysBySells();
        passiveSellsByBuys();
        passiveByOwnOrders();
        passiveByWhatDoesNotRest();
        wholeQuantities();
        wholePrices();
        wholeCountsOthersAlone();
        firstOfTwoThatHold();
        refusedCallsLeaveAllAsItWas();
        refusedOrdersHaveNoNumber();
        CHECK.end();
    }

    /** Members 0 and 3 hold 1 and -1 at 100; member 0 has 10, so 90 leaves it nothing and 89 can't be paid. */
    private static ClearedExchange settledAt(int mark) {
        ClearedExchange x = new ClearedExchange(0);
        x.deposit(0, 10);
        x.deposit(3, 1000);
        x.order(0, 0, true, Setup.LIMIT, 100, 1);
        x.order(3, 0, false, Setup.LIMIT, 100, 1);
        x.open(0);
        x.settle(mark, 100);
        return x;
    }

    /** Promise 2: "-2 when the member is a defaulter". */
    private static void defaultersDeposit() {
        CHECK.due("deposit of one with just no cash", settledAt(90).deposit(0, 1), 0);
        CHECK.due("deposit of a defaulter", settledAt(89).deposit(0, 1), -2);
        CHECK.due("deposit of another", settledAt(89).deposit(1, 1), 0);
        ClearedExchange x = settledAt(89);
        x.deposit(0, 100000);
        CHECK.due("a defaulter's cash", x.cash(0), 0);
    }

    /** Promise 3: "-2 when the member is a defaulter", before -5. */
    private static void defaultersWithdraw() {
        CHECK.due("withdraw of one with just no cash", settledAt(90).withdraw(0, 1), -5);
        CHECK.due("withdraw of a defaulter", settledAt(89).withdraw(0, 1), -2);
        CHECK.due("withdraw of another", settledAt(89).withdraw(3, 1), 0);
        ClearedExchange x = defaulterWithCash();
        CHECK.due("a defaulter's cash", x.cash(0), 5);
        CHECK.due("a defaulter withdraws what it has", x.withdraw(0, 5), -2);
        CHECK.due("its cash after that", x.cash(0), 5);
    }

    /** Promise 4: as promise 3. */
    private static void defaultersContribute() {
        CHECK.due("contribute of one with just no cash", settledAt(90).contribute(0, 1), -5);
        CHECK.due("contribute of a defaulter", settledAt(89).contribute(0, 1), -2);
        CHECK.due("contribute of another", settledAt(89).contribute(3, 1), 0);
        ClearedExchange x = defaulterWithCash();
        CHECK.due("a defaulter contributes what it has", x.contribute(0, 5), -2);
        CHECK.due("its cash after that", x.cash(0), 5);
        CHECK.due("its share after that", x.share(0), 0);
    }

    /** Member 0 could not pay at 89, but was closed out at 95. */
    private static ClearedExchange defaulterWithCash() {
        ClearedExchange x = new ClearedExchange(0);
        x.deposit(0, 10);
        x.deposit(3, 1000);
        x.open(0);
        x.order(0, 0, true, Setup.LIMIT, 100, 1);
        x.order(3, 0, false, Setup.LIMIT, 100, 1);
        x.order(3, 0, true, Setup.LIMIT, 95, 1);
        x.settle(89, 100);
        return x;
    }

    /** Promise 6: "-2 the member is a defaulter". */
    private static void defaultersOrder() {
        for (int kind : ALL_KINDS) {
            ClearedExchange x = settledAt(89);
            CHECK.due("kind " + kind + " of a defaulter", x.order(0, 0, false, kind, 100, 1), -2);
        }
        ClearedExchange y = settledAt(90);
        y.deposit(0, 5);
        CHECK.due("an order of one that had just no cash", y.order(0, 0, false, Setup.LIMIT, 100, 1), 3);
        CHECK.due("an order of another", settledAt(89).order(3, 0, false, Setup.LIMIT, 100, 1), 3);
    }

    /** Promise 6: "-3 the contract is in CALL, and the kind is neither LIMIT nor STOP". */
    private static void kindsInCall() {
        int[] inCall = {1, -3, -3, -3, -3, 1};
        for (int kind : ALL_KINDS) {
            ClearedExchange x = Setup.inCall(1000);
            CHECK.due("kind " + kind + " at first", x.order(0, 1, true, kind, 100, 1), inCall[kind]);
            ClearedExchange y = Setup.inCall(1000);
            y.open(0);
            CHECK.due("kind " + kind + " when the other is OPEN", y.order(0, 1, true, kind, 100, 1), inCall[kind]);
            ClearedExchange z = Setup.opened(1000);
            int open = kind == Setup.WHOLE ? -7 : 1;
            CHECK.due("kind " + kind + " when OPEN", z.order(0, 1, true, kind, 100, 1), open);
            z.call(1);
            int again = inCall[kind] == -3 ? -3 : 2;
            CHECK.due("kind " + kind + " after a call", z.order(0, 1, true, kind, 100, 1), again);
        }
    }

    /** Promise 9: "-3 when it is OPEN". */
    private static void openOfAnOpenContract() {
        ClearedExchange x = Setup.inCall(1000);
        x.order(0, 0, true, Setup.LIMIT, 100, 1);
        x.order(1, 0, false, Setup.LIMIT, 100, 1);
        CHECK.due("open in CALL", x.open(0), 1);
        CHECK.due("open when OPEN", x.open(0), -3);
        CHECK.due("open of the other", x.open(1), 0);
        CHECK.due("open of the other when OPEN", x.open(1), -3);
        CHECK.due("call", x.call(0), 1);
        CHECK.due("open after a call", x.open(0), 0);
        CHECK.due("still OPEN", x.phase(0), 1);
        CHECK.due("trades", x.trades(), 1);
    }

    /** So many orders of all members, contracts and sides that rest or wait; none meets another. */
    private static void fill(ClearedExchange x, int count) {
        for (int i = 0; i < count; i++) {
            int kind = i % 3 == 0 ? Setup.STOP : i % 3 == 1 ? Setup.LIMIT : Setup.PASSIVE;
            boolean buy = i % 5 < 2;
            int price = kind == Setup.STOP ? 500 : buy ? 10 : 900;
            x.order(i % 4, i / 2 % 2, buy, kind, price, 1);
        }
    }

    /** Promise 6: "-4 the kind is LIMIT, PASSIVE or STOP, and 20 orders (of all members and contracts) rest or wait". */
    private static void twentyRestOrWait() {
        int[] full = {-4, 21, 21, -4, 21, -4};
        for (int kind : ALL_KINDS) {
            for (int count = 18; count <= 20; count++) {
                ClearedExchange x = Setup.opened(10000);
                fill(x, count);
                // 900 meets resting sells, and a PASSIVE one must not.
                int price = kind == Setup.PASSIVE ? 20 : 900;
                int due = count < 20 ? count + 1 : full[kind];
                CHECK.due("kind " + kind + " beside " + count, x.order(3, 0, true, kind, price, 1), due);
            }
        }
        ClearedExchange y = Setup.opened(10000);
        fill(y, 20);
        CHECK.due("a LIMIT that would be met whole", y.order(3, 0, true, Setup.LIMIT, 900, 1), -4);
        CHECK.due("no trade", y.trades(), 0);
    }

    /** Promise 6: "-5 the member would not be covered with it resting": 10 require 50. */
    private static void coverOfEveryKind() {
        for (int kind : ALL_KINDS) {
            for (int cash = 49; cash <= 51; cash++) {
                ClearedExchange x = Setup.opened(cash);
                x.deposit(1, 1000);
                x.order(1, 0, false, Setup.LIMIT, 100, 10);
                int price = kind == Setup.PASSIVE ? 99 : 100;
                int due = cash < 50 ? -5 : 2;
                CHECK.due("kind " + kind + " with " + cash, x.order(0, 0, true, kind, price, 10), due);
            }
        }
    }

    /** "The greater one of |position + what is left of its buys| and |position - what is left of its sells|". */
    private static void coverOfEverySide() {
        ClearedExchange x = Setup.opened(50);
        CHECK.due("10 to buy", x.order(0, 0, true, Setup.LIMIT, 90, 10), 1);
        CHECK.due("9 to sell", x.order(0, 0, false, Setup.LIMIT, 110, 9), 2);
        CHECK.due("10 to sell", x.order(0, 0, false, Setup.STOP, 50, 1), 3);
        CHECK.due("11 to sell", x.order(0, 0, false, Setup.LIMIT, 110, 1), -5);
        CHECK.due("11 to buy", x.order(0, 0, true, Setup.STOP, 500, 1), -5);
        x.cancel(3);
        CHECK.due("10 to sell again", x.order(0, 0, false, Setup.LIMIT, 110, 1), 4);
        CHECK.due("spare", x.spare(0), 0);
    }

    private static void coverOverBothContracts() {
        for (int cash = 99; cash <= 101; cash++) {
            ClearedExchange x = Setup.opened(cash);
            CHECK.due("10 of one", x.order(0, 0, true, Setup.LIMIT, 90, 10), 1);
            CHECK.due("10 of the other with " + cash, x.order(0, 1, false, Setup.LIMIT, 90, 10), cash < 100 ? -5 : 2);
        }
    }

    private static void coverAtTheMarkNotThePrice() {
        for (int price : new int[] {1, 2, 100, 999, 1000}) {
            CHECK.due("10 at " + price, Setup.opened(50).order(0, 0, true, Setup.LIMIT, price, 10), 1);
            CHECK.due("11 at " + price, Setup.opened(50).order(0, 0, true, Setup.LIMIT, price, 11), -5);
            ClearedExchange x = Setup.opened(50);
            x.settle(200, 100);
            CHECK.due("5 at " + price + ", mark 200", x.order(0, 0, true, Setup.LIMIT, price, 5), 1);
            CHECK.due("6 at " + price + ", mark 200", x.order(0, 0, true, Setup.LIMIT, price, 1), -5);
        }
    }

    /** With 10 bought a sell of 20 has an exposure of 10 too; a buy adds to it at once. */
    private static void coverBesideAPosition() {
        for (int quantity = 19; quantity <= 21; quantity++) {
            ClearedExchange x = bought10();
            int due = quantity > 20 ? -5 : 3;
            CHECK.due("sell " + quantity + " of 10", x.order(0, 0, false, Setup.LIMIT, 200, quantity), due);
            ClearedExchange y = sold10();
            CHECK.due("buy " + quantity + " for -10", y.order(0, 0, true, Setup.LIMIT, 50, quantity), due);
        }
        CHECK.due("buy 1 beside 10", bought10().order(0, 0, true, Setup.LIMIT, 50, 1), -5);
        CHECK.due("sell 1 beside -10", sold10().order(0, 0, false, Setup.LIMIT, 200, 1), -5);
    }

    private static ClearedExchange bought10() {
        ClearedExchange x = Setup.opened(50);
        x.order(1, 0, false, Setup.LIMIT, 100, 10);
        x.order(0, 0, true, Setup.LIMIT, 100, 10);
        return x;
    }

    private static ClearedExchange sold10() {
        ClearedExchange x = Setup.opened(50);
        x.order(1, 0, true, Setup.LIMIT, 100, 10);
        x.order(0, 0, false, Setup.LIMIT, 100, 10);
        return x;
    }

    /** "Its EQUITY is its cash and, for each contract, position * MARK - cost." */
    private static void coverByGains() {
        for (int price = 94; price <= 96; price++) {
            // 10 bought at 95 are a gain of 50, which just covers 10 more of the other contract.
            ClearedExchange x = Setup.opened(50);
            x.deposit(1, 1000);
            x.order(1, 0, false, Setup.LIMIT, price, 10);
            x.order(0, 0, true, Setup.LIMIT, price, 10);
            int due = price > 95 ? -5 : 3;
            CHECK.due("10 more after a buy at " + price, x.order(0, 1, true, Setup.LIMIT, 90, 10), due);
        }
        ClearedExchange y = Setup.opened(50);
        y.order(1, 0, false, Setup.LIMIT, 101, 5);
        y.order(0, 0, true, Setup.LIMIT, 101, 5);
        CHECK.due("50 less 5 lost less 25", y.spare(0), 20);
        CHECK.due("5 more require 25", y.order(0, 1, true, Setup.LIMIT, 90, 5), -5);
        CHECK.due("4 more require 20", y.order(0, 1, true, Setup.LIMIT, 90, 4), 3);
    }

    /** A member that is not covered has all orders refused, those too that add nothing to its exposure. */
    private static void coverOfOneThatIsNotCovered() {
        for (int cash = 4; cash <= 6; cash++) {
            for (int side = 0; side < 2; side++) {
                boolean buy = side == 1;
                ClearedExchange x = Setup.opened(10 + cash);
                x.deposit(1, 1000);
                x.order(1, 0, !buy, Setup.LIMIT, 100, 1);
                x.order(0, 0, buy, Setup.LIMIT, 100, 1);
                // It has lost 10, and 1 at the mark of 90 or 110 requires 4.5 or 5.5, rounded up.
                x.settle(buy ? 90 : 110, 100);
                int need = buy ? 5 : 6;
                CHECK.due("spare with " + cash, x.spare(0), cash - need);
                int due = cash < need ? -5 : 3;
                CHECK.due("an order to close it with " + cash, x.order(0, 0, !buy, Setup.LIMIT, 100, 1), due);
            }
        }
    }

    /** "With it resting": what it would meet at once does not count. */
    private static void coverOfAnOrderThatWouldTradeAtOnce() {
        ClearedExchange x = Setup.opened(50);
        x.deposit(1, 1000);
        x.order(1, 0, false, Setup.LIMIT, 50, 11);
        CHECK.due("11 would gain 550 at once", x.order(0, 0, true, Setup.IMMEDIATE, 50, 11), -5);
        CHECK.due("10 are covered", x.order(0, 0, true, Setup.IMMEDIATE, 50, 10), 2);
        ClearedExchange y = Setup.opened(50);
        y.deposit(1, 1000);
        y.order(1, 0, false, Setup.LIMIT, 200, 10);
        CHECK.due("10 would lose 1000 at once", y.order(0, 0, true, Setup.IMMEDIATE, 200, 10), 2);
        CHECK.due("its spare is below 0 then", y.spare(0), 50 - 1000 - 50);
        CHECK.due("nothing more is taken", y.order(0, 0, false, Setup.LIMIT, 200, 1), -5);
    }

    /** Promise 3: "-5 when its cash would be below 0". */
    private static void withdrawDownToNoCash() {
        int[] due = {0, 0, -5};
        for (int i = 0; i < 3; i++) {
            ClearedExchange x = Setup.inCall(100);
            CHECK.due("withdraw " + (99 + i) + " of 100", x.withdraw(0, 99 + i), due[i]);
            CHECK.due("cash", x.cash(0), due[i] == 0 ? 1 - i : 100);
            ClearedExchange y = withGain();
            CHECK.due("withdraw " + (99 + i) + " of 100 beside a gain", y.withdraw(0, 99 + i), due[i]);
        }
        CHECK.due("withdraw of nothing", new ClearedExchange(0).withdraw(0, 1), -5);
    }

    /** Member 0 has cash 100 and a gain of 500 that is not settled. */
    private static ClearedExchange withGain() {
        ClearedExchange x = Setup.opened(100);
        x.deposit(1, 1000);
        x.order(1, 0, false, Setup.LIMIT, 50, 10);
        x.order(0, 0, true, Setup.LIMIT, 50, 10);
        return x;
    }

    /** Promise 3: "or it would not be covered". */
    private static void withdrawDownToTheCover() {
        int[] due = {0, 0, -5};
        for (int i = 0; i < 3; i++) {
            ClearedExchange x = Setup.inCall(100);
            x.order(0, 1, false, Setup.LIMIT, 100, 10);
            CHECK.due("withdraw " + (49 + i) + " with 50 required", x.withdraw(0, 49 + i), due[i]);
            CHECK.due("spare", x.spare(0), due[i] == 0 ? 1 - i : 50);
            CHECK.due("share", x.share(0), 0);
        }
    }

    /** Promise 4: as promise 3. */
    private static void contributeDownToNoCash() {
        int[] due = {0, 0, -5};
        for (int i = 0; i < 3; i++) {
            ClearedExchange x = Setup.inCall(100);
            CHECK.due("contribute " + (99 + i) + " of 100", x.contribute(0, 99 + i), due[i]);
            CHECK.due("cash", x.cash(0), due[i] == 0 ? 1 - i : 100);
            CHECK.due("share", x.share(0), due[i] == 0 ? 99 + i : 0);
            ClearedExchange y = withGain();
            CHECK.due("contribute " + (99 + i) + " of 100 beside a gain", y.contribute(0, 99 + i), due[i]);
        }
        CHECK.due("contribute of nothing", new ClearedExchange(0).contribute(0, 1), -5);
    }

    /** Promise 4: as promise 3; a share is no equity. */
    private static void contributeDownToTheCover() {
        int[] due = {0, 0, -5};
        for (int i = 0; i < 3; i++) {
            ClearedExchange x = Setup.inCall(100);
            x.order(0, 1, false, Setup.LIMIT, 100, 10);
            CHECK.due("contribute " + (49 + i) + " with 50 required", x.contribute(0, 49 + i), due[i]);
            CHECK.due("spare", x.spare(0), due[i] == 0 ? 1 - i : 50);
            CHECK.due("share", x.share(0), due[i] == 0 ? 49 + i : 0);
        }
    }

    /** Promise 6: "-6 PASSIVE, and its price allows a resting order": a buy's is not lower. */
    private static void passiveBuysBySells() {
        int[] due = {2, -6, -6};
        for (int i = 0; i < 3; i++) {
            ClearedExchange x = Setup.opened(1000);
            x.order(1, 0, false, Setup.LIMIT, 100, 1);
            CHECK.due("a PASSIVE buy at " + (99 + i), x.order(0, 0, true, Setup.PASSIVE, 99 + i, 5), due[i]);
            CHECK.due("no trade", x.trades(), 0);
            CHECK.due("best buy", x.best(0, true), due[i] == 2 ? 99 : 0);
        }
        CHECK.due("at 1000 with nothing there", Setup.opened(1000).order(0, 0, true, Setup.PASSIVE, 1000, 5), 1);
    }

    /** The same: a sell's is not higher. */
    private static void passiveSellsByBuys() {
        int[] due = {-6, -6, 2};
        for (int i = 0; i < 3; i++) {
            ClearedExchange x = Setup.opened(1000);
            x.order(1, 0, true, Setup.LIMIT, 100, 1);
            CHECK.due("a PASSIVE sell at " + (99 + i), x.order(0, 0, false, Setup.PASSIVE, 99 + i, 5), due[i]);
            CHECK.due("no trade", x.trades(), 0);
            CHECK.due("best sell", x.best(0, false), due[i] == 2 ? 101 : 0);
        }
        CHECK.due("at 1 with nothing there", Setup.opened(1000).order(0, 0, false, Setup.PASSIVE, 1, 5), 1);
    }

    /** "(Of any member)". */
    private static void passiveByOwnOrders() {
        for (int member = 0; member < 4; member++) {
            ClearedExchange x = Setup.opened(1000);
            x.order(member, 1, false, Setup.LIMIT, 100, 1);
            CHECK.due("at an order of " + member, x.order(2, 1, true, Setup.PASSIVE, 100, 1), -6);
            CHECK.due("it rests still", x.state(1, 1), 0);
            CHECK.due("just below it", x.order(2, 1, true, Setup.PASSIVE, 99, 1), 2);
        }
    }

    private static void passiveByWhatDoesNotRest() {
        ClearedExchange x = Setup.opened(1000);
        x.order(1, 0, false, Setup.STOP, 50, 1);
        CHECK.due("a stop does not rest", x.order(0, 0, true, Setup.PASSIVE, 1000, 1), 2);
        CHECK.due("nor are own buys in the way", x.order(0, 0, true, Setup.PASSIVE, 1, 1), 3);
        x.order(1, 1, false, Setup.LIMIT, 100, 1);
        x.cancel(4);
        CHECK.due("nor does a cancelled one rest", x.order(0, 1, true, Setup.PASSIVE, 100, 1), 5);
        CHECK.due("nor one of the other contract", x.order(2, 1, true, Setup.PASSIVE, 1000, 1), 6);
    }

    /** Promise 6: "-7 WHOLE, and there is not so much". */
    private static void wholeQuantities() {
        int[] due = {3, 3, -7};
        for (int i = 0; i < 3; i++) {
            ClearedExchange x = Setup.opened(1000);
            x.order(1, 0, false, Setup.LIMIT, 100, 4);
            x.order(2, 0, false, Setup.LIMIT, 99, 6);
            CHECK.due("WHOLE of " + (9 + i) + " with 10 there", x.order(0, 0, true, Setup.WHOLE, 100, 9 + i), due[i]);
            CHECK.due("position", x.position(0, 0), due[i] == 3 ? 9 + i : 0);
            CHECK.due("trades", x.trades(), due[i] == 3 ? 2 : 0);
        }
        CHECK.due("1 with nothing there", Setup.opened(1000).order(0, 0, true, Setup.WHOLE, 1000, 1), -7);
    }

    private static void wholePrices() {
        int[] buys = {-7, 2, 2};
        int[] sells = {2, 2, -7};
        for (int i = 0; i < 3; i++) {
            ClearedExchange x = Setup.opened(1000);
            x.order(1, 0, false, Setup.LIMIT, 100, 5);
            CHECK.due("a WHOLE buy at " + (99 + i), x.order(0, 0, true, Setup.WHOLE, 99 + i, 5), buys[i]);
            ClearedExchange y = Setup.opened(1000);
            y.order(1, 0, true, Setup.LIMIT, 100, 5);
            CHECK.due("a WHOLE sell at " + (99 + i), y.order(0, 0, false, Setup.WHOLE, 99 + i, 5), sells[i]);
        }
    }

    /** "The orders of others that its price allows have as much left as it wants". */
    private static void wholeCountsOthersAlone() {
        ClearedExchange x = Setup.opened(1000);
        x.order(0, 0, false, Setup.LIMIT, 100, 50);
        x.order(1, 0, false, Setup.LIMIT, 101, 3);
        x.order(1, 0, false, Setup.STOP, 50, 9);
        x.order(1, 0, true, Setup.LIMIT, 90, 9);
        x.order(1, 1, false, Setup.LIMIT, 100, 9);
        x.order(2, 0, false, Setup.LIMIT, 101, 2);
        x.order(3, 0, true, Setup.IMMEDIATE, 100, 49);
        CHECK.due("6 with 5 of others", x.order(0, 0, true, Setup.WHOLE, 101, 6), -7);
        CHECK.due("the own order rests still", x.state(1, 1), 0);
        CHECK.due("5 with 5 of others", x.order(0, 0, true, Setup.WHOLE, 101, 5), 8);
        CHECK.due("all of it is met", x.state(8, 0), 0);
        CHECK.due("the own order is done", x.state(1, 1), 2);
    }

    /** Promise 6: "Refused, the first of these that holds". */
    private static void firstOfTwoThatHold() {
        // Member 0 is a defaulter without cash.
        CHECK.due("-2 before -3", calledWithDefaulter().order(0, 0, true, Setup.MARKET, 100, 1), -2);
        CHECK.due("-2 before -4", fullWithDefaulter().order(0, 0, true, Setup.LIMIT, 100, 1), -2);
        CHECK.due("-2 before -5", Setup.withDefaulter().order(0, 0, true, Setup.LIMIT, 100, 50), -2);
        CHECK.due("-2 before -6", fullWithDefaulter().order(0, 0, true, Setup.PASSIVE, 1000, 1), -2);
        CHECK.due("-2 before -7", Setup.withDefaulter().order(0, 0, true, Setup.WHOLE, 100, 1), -2);
        ClearedExchange full = full();
        full.call(0);
        CHECK.due("-3 before -4 and -6", full.order(3, 0, true, Setup.PASSIVE, 1000, 1), -3);
        CHECK.due("-3 before -5", new ClearedExchange(0).order(0, 0, true, Setup.MARKET, 100, 1), -3);
        CHECK.due("-3 before -7", Setup.inCall(1000).order(0, 0, true, Setup.WHOLE, 100, 1), -3);
        ClearedExchange poor = full();
        poor.withdraw(0, 1000);
        CHECK.due("-4 before -5 for LIMIT", poor.order(0, 0, true, Setup.LIMIT, 100, 50), -4);
        CHECK.due("-4 before -5 for STOP", poor.order(0, 0, true, Setup.STOP, 100, 50), -4);
        CHECK.due("-4 before -5 and -6", poor.order(0, 0, true, Setup.PASSIVE, 1000, 50), -4);
        CHECK.due("-4 before -6", full().order(3, 0, true, Setup.PASSIVE, 1000, 1), -4);
        CHECK.due("-5 before -7, as WHOLE may be full", poor.order(0, 0, true, Setup.WHOLE, 100, 50), -5);
        poor.cancel(20);
        CHECK.due("-5 before -6", poor.order(0, 0, true, Setup.PASSIVE, 1000, 1), -5);
        poor.deposit(0, 5);
        CHECK.due("-6 with cover", poor.order(0, 0, true, Setup.PASSIVE, 1000, 1), -6);
        CHECK.due("-7 with cover", poor.order(0, 0, true, Setup.WHOLE, 100, 1), -7);
    }

    private static ClearedExchange calledWithDefaulter() {
        ClearedExchange x = Setup.withDefaulter();
        x.call(0);
        return x;
    }

    private static ClearedExchange fullWithDefaulter() {
        ClearedExchange x = Setup.withDefaulter();
        x.deposit(1, 1000);
        sellTwenty(x);
        return x;
    }

    private static ClearedExchange full() {
        ClearedExchange x = Setup.opened(1000);
        sellTwenty(x);
        return x;
    }

    private static void sellTwenty(ClearedExchange x) {
        for (int i = 0; i < 20; i++) {
            x.order(1, 0, false, Setup.LIMIT, 900, 1);
        }
    }

    /** A refused call is a message with a reply, and does nothing. */
    private static void refusedCallsLeaveAllAsItWas() {
        int[] refusals = {-2, -2, -2, -5, -5, -2, -3, -4, -5, -6, -7, -3};
        for (int call = 0; call < refusals.length; call++) {
            ClearedExchange x = beforeRefusals(call);
            long[] before = Snapshot.of(x);
            int messages = x.messages();
            CHECK.due("refused call " + call, refused(x, call), refusals[call]);
            CHECK.same("refused call " + call, Snapshot.of(x), before);
            CHECK.due("it is a message", x.messages(), messages + 1);
            CHECK.due("its reply", x.reply(messages + 1), refusals[call]);
        }
    }

    /** Member 0 is a defaulter, and member 1 has just the 11 that its sell of 3 at the mark of 70 requires. */
    private static ClearedExchange beforeRefusals(int call) {
        ClearedExchange x = Setup.withDefaulter();
        x.order(1, 0, false, Setup.LIMIT, 100, 3);
        x.order(2, 0, true, Setup.LIMIT, 60, 3);
        x.order(2, 1, true, Setup.STOP, 160, 3);
        x.withdraw(1, 989);
        if (call == 6) {
            x.call(0);
        }
        for (int i = 0; call == 7 && i < 17; i++) {
            x.order(3, 1, false, Setup.LIMIT, 200, 1);
        }
        return x;
    }

    private static int refused(ClearedExchange x, int call) {
        switch (call) {
            case 0: return x.deposit(0, 1);
            case 1: return x.withdraw(0, 1);
            case 2: return x.contribute(0, 1);
            case 3: return x.withdraw(1, 1);
            case 4: return x.contribute(1, 1);
            case 5: return x.order(0, 0, true, Setup.LIMIT, 100, 1);
            case 6: return x.order(3, 0, true, Setup.MARKET, 100, 1);
            case 7: return x.order(3, 0, true, Setup.LIMIT, 100, 1);
            case 8: return x.order(1, 0, false, Setup.LIMIT, 60, 1);
            case 9: return x.order(3, 0, false, Setup.PASSIVE, 60, 1);
            case 10: return x.order(3, 0, false, Setup.WHOLE, 60, 4);
            default: return x.open(0);
        }
    }

    /** "ORDERS that were taken have numbers 1, 2, 3, ..": refused ones and wrong ones have none. */
    private static void refusedOrdersHaveNoNumber() {
        ClearedExchange x = Setup.opened(50);
        CHECK.due("taken", x.order(0, 0, true, Setup.LIMIT, 90, 1), 1);
        CHECK.due("not covered", x.order(0, 0, true, Setup.LIMIT, 90, 50), -5);
        CHECK.due("next", x.order(0, 0, true, Setup.IMMEDIATE, 90, 1), 2);
        CHECK.due("not whole", x.order(0, 0, true, Setup.WHOLE, 90, 1), -7);
        CHECK.due("wrong", x.order(0, 0, true, 6, 90, 1), -1);
        CHECK.due("not passive", x.order(1, 0, false, Setup.PASSIVE, 90, 1), -6);
        x.call(1);
        CHECK.due("in CALL", x.order(0, 1, true, Setup.MARKET, 90, 1), -3);
        CHECK.due("next", x.order(0, 0, true, Setup.STOP, 900, 1), 3);
        CHECK.due("no more", x.state(4, 0), -1);
    }
}
