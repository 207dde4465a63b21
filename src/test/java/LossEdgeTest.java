/**
 * Settlements and their losses: who just can pay and who just can't, and how far each of those that bear a loss goes,
 * with the rounding of the fund's parts.
 */
public final class LossEdgeTest {
    private static final Check CHECK = new Check("LossEdgeTest");

    public static void main(String[] args) {
        cashBelowZero();
        cashBelowZeroOfEachMember();
        shortPositionBelowZero();
        cashOfADefaulterAfterItsClosing();
        ownShareAsFarAsItGoes();
        capitalAsFarAsItGoes();
        capitalAsFarAsItIsAboveZero();
        fundAsFarAsItGoes();
        restIsTakenFromTheCapital();
        partsAreRoundedDown();
        greatestRemaindersPayOneMore();
        equalRemaindersByTheLeastNumbers();
        onePayerPaysAll();
        greatNumbersAreSharedExactly();
        defaultersPayNoPart();
        howManyBecameDefaulters();
        allItsOrdersAreDone();
        closingFillsWhatItCan();
        closingOfASale();
        closingInCall();
        stopsAfterEachClosing();
        CHECK.end();
    }

    /**
     * A member with cash 10 beside its share holds 1 of contract 0, bought at 100 from the next member; contract 0 is
     * OPEN, and shares[i] is what member i has in the fund.
     */
    private static ClearedExchange beforeLoss(int member, int capital, int[] shares) {
        ClearedExchange x = new ClearedExchange(0);
        for (int i = 0; i < 4; i++) {
            x.deposit(i, (i == member ? 10 : 50000) + shares[i]);
            if (shares[i] > 0) {
                x.contribute(i, shares[i]);
            }
        }
        if (capital > 0) {
            x.endow(capital);
        }
        x.order(member, 0, true, Setup.LIMIT, 100, 1);
        x.order((member + 1) % 4, 0, false, Setup.LIMIT, 100, 1);
        x.open(0);
        return x;
    }

    /** The same after a settlement in which the member can't pay so much. */
    private static ClearedExchange afterLoss(int member, int loss, int capital, int... shares) {
        ClearedExchange x = beforeLoss(member, capital, shares);
        CHECK.due("a loss of " + loss + " makes a defaulter", x.settle(90 - loss, 100), 1);
        CHECK.due("of this member", x.defaulter(member), true);
        CHECK.due("its cash is 0", x.cash(member), 0);
        return x;
    }

    private static void leaves(String what, ClearedExchange x, long capital, long... shares) {
        CHECK.due(what + ": capital", x.cash(4), capital);
        for (int i = 0; i < 4; i++) {
            CHECK.due(what + ": share of " + i, x.share(i), shares[i]);
        }
    }

    /** "If its cash is below 0 and it is no DEFAULTER". */
    private static void cashBelowZero() {
        int[] cash = {1, 0, 0};
        for (int i = 0; i < 3; i++) {
            ClearedExchange x = beforeLoss(0, 0, new int[4]);
            int mark = 91 - i;
            CHECK.due("settle at " + mark, x.settle(mark, 100), i == 2 ? 1 : 0);
            CHECK.due("defaulter at " + mark, x.defaulter(0), i == 2);
            CHECK.due("cash at " + mark, x.cash(0), cash[i]);
            CHECK.due("position at " + mark, x.position(0, 0), i == 2 ? 0 : 1);
            CHECK.due("capital at " + mark, x.cash(4), i == 2 ? -1 : 0);
            CHECK.due("house's position at " + mark, x.position(4, 0), i == 2 ? 1 : 0);
            CHECK.due("house's cost at " + mark, x.cost(4, 0), i == 2 ? mark : 0);
        }
    }

    private static void cashBelowZeroOfEachMember() {
        for (int member = 0; member < 4; member++) {
            ClearedExchange x = beforeLoss(member, 0, new int[4]);
            CHECK.due("settle with just enough", x.settle(90, 100), 0);
            CHECK.due("no defaulter", x.defaulter(member), false);
            CHECK.due("settle with 1 too little", x.settle(89, 100), 1);
            for (int other = 0; other < 4; other++) {
                CHECK.due("defaulter", x.defaulter(other), other == member);
            }
            CHECK.due("once alone", x.settle(88, 100), 0);
        }
    }

    private static void shortPositionBelowZero() {
        for (int mark = 109; mark <= 111; mark++) {
            ClearedExchange x = new ClearedExchange(0);
            x.deposit(0, 10);
            x.deposit(1, 10);
            x.order(0, 1, false, Setup.LIMIT, 100, 1);
            x.order(1, 1, true, Setup.LIMIT, 100, 1);
            x.open(1);
            CHECK.due("settle a sale at " + mark, x.settle(100, mark), mark == 111 ? 1 : 0);
            CHECK.due("cash", x.cash(0), mark == 109 ? 1 : 0);
            CHECK.due("cash of the buyer", x.cash(1), mark - 90);
            CHECK.due("house's position", x.position(4, 1), mark == 111 ? -1 : 0);
            CHECK.due("house's cost", x.cost(4, 1), mark == 111 ? -111 : 0);
        }
    }

    /** "If the cash is below 0": a closing above the mark may leave just nothing, or 1. */
    private static void cashOfADefaulterAfterItsClosing() {
        int[] cash = {0, 0, 1};
        int[] share = {4, 5, 5};
        for (int i = 0; i < 3; i++) {
            ClearedExchange x = beforeLoss(0, 7, new int[] {5, 0, 0, 0});
            x.order(2, 0, true, Setup.LIMIT, 89 + i, 1);
            CHECK.due("settle", x.settle(80, 100), 1);
            CHECK.due("closed at " + (89 + i), x.last(0), 89 + i);
            CHECK.due("its cash", x.cash(0), cash[i]);
            CHECK.due("its share", x.share(0), share[i]);
            CHECK.due("capital", x.cash(4), 7);
            CHECK.due("a defaulter in any case", x.defaulter(0), true);
            CHECK.due("its position", x.position(0, 0), 0);
            CHECK.due("its cost", x.cost(0, 0), 0);
        }
    }

    /** "By its fund share, as far as that goes". */
    private static void ownShareAsFarAsItGoes() {
        leaves("loss 4 of 5", afterLoss(0, 4, 9, 5, 9, 9, 9), 9, 1, 9, 9, 9);
        leaves("loss 5 of 5", afterLoss(0, 5, 9, 5, 9, 9, 9), 9, 0, 9, 9, 9);
        leaves("loss 6 of 5", afterLoss(0, 6, 9, 5, 9, 9, 9), 8, 0, 9, 9, 9);
        leaves("loss 1 of 1", afterLoss(3, 1, 9, 9, 9, 9, 1), 9, 9, 9, 9, 0);
        leaves("loss 1 of 0", afterLoss(3, 1, 9, 9, 9, 9, 0), 8, 9, 9, 9, 0);
    }

    /** "Then by the house's capital". */
    private static void capitalAsFarAsItGoes() {
        leaves("loss 6 of 7", afterLoss(1, 6, 7, 5, 0, 5, 5), 1, 5, 0, 5, 5);
        leaves("loss 7 of 7", afterLoss(1, 7, 7, 5, 0, 5, 5), 0, 5, 0, 5, 5);
        leaves("loss 8 of 7", afterLoss(1, 8, 7, 5, 0, 5, 5), 0, 4, 0, 5, 5);
        leaves("loss 10 of 3 and 7", afterLoss(1, 10, 7, 5, 3, 5, 5), 0, 5, 0, 5, 5);
        leaves("loss 11 of 3 and 7", afterLoss(1, 11, 7, 5, 3, 5, 5), 0, 4, 0, 5, 5);
    }

    /** "As far as that is above 0": with -1, 0, 1, 2 and 3 in it, for a loss of 2. */
    private static void capitalAsFarAsItIsAboveZero() {
        for (int capital = -1; capital <= 3; capital++) {
            // Member 0 leaves a capital of -5 and 1 for the house, which loses 12 by the next mark.
            ClearedExchange x = afterLoss(0, 5, 0, 0, 0, 0, 0);
            x.endow(5 + 12 + capital);
            x.contribute(3, 4);
            x.order(2, 0, true, Setup.LIMIT, 85, 1);
            x.order(3, 0, false, Setup.LIMIT, 85, 1);
            x.withdraw(2, 49990);
            CHECK.due("settle", x.settle(73, 100), 1);
            int paid = Math.max(0, Math.min(capital, 2));
            leaves("capital of " + capital, x, capital - paid, 0, 0, 0, 4 - (2 - paid));
        }
    }

    /** "Then by the fund shares of the members that are no defaulters, as far as they go together". */
    private static void fundAsFarAsItGoes() {
        leaves("loss 5 of 6", afterLoss(0, 5, 0, 0, 1, 2, 3), 0, 0, 0, 0, 1);
        leaves("loss 6 of 6", afterLoss(0, 6, 0, 0, 1, 2, 3), 0, 0, 0, 0, 0);
        leaves("loss 7 of 6", afterLoss(0, 7, 0, 0, 1, 2, 3), -1, 0, 0, 0, 0);
        leaves("loss 1 of 0", afterLoss(0, 1, 0, 0, 0, 0, 0), -1, 0, 0, 0, 0);
        leaves("loss 1 of 1", afterLoss(0, 1, 0, 0, 0, 0, 1), 0, 0, 0, 0, 0);
        leaves("loss 2 of 1", afterLoss(0, 2, 0, 0, 0, 0, 1), -1, 0, 0, 0, 0);
    }

    /** "What is still left is taken from the capital, which may be below 0 then." */
    private static void restIsTakenFromTheCapital() {
        leaves("own 2, capital 3, fund 4", afterLoss(2, 9, 3, 1, 1, 2, 2), 0, 0, 0, 0, 0);
        leaves("and 1 more", afterLoss(2, 10, 3, 1, 1, 2, 2), -1, 0, 0, 0, 0);
        leaves("and 80 more", afterLoss(2, 89, 3, 1, 1, 2, 2), -80, 0, 0, 0, 0);
        leaves("and 1 less", afterLoss(2, 8, 3, 1, 1, 2, 2), 0, 0, 0, 0, 1);
    }

    /** "Of an amount t each pays t * share / (sum of these shares) rounded down". */
    private static void partsAreRoundedDown() {
        // 10 of 100, 200 and 700: 1, 2 and 7, and nothing is left to pay.
        leaves("even parts", afterLoss(0, 10, 0, 0, 100, 200, 700), 0, 0, 99, 198, 693);
        // 9: 0.9, 1.8 and 6.3, so that 2 are left, for the remainders .9 and .8.
        leaves("one less", afterLoss(0, 9, 0, 0, 100, 200, 700), 0, 0, 99, 198, 694);
        // 11: 1.1, 2.2 and 7.7, so that 1 is left, for the remainder .7.
        leaves("one more", afterLoss(0, 11, 0, 0, 100, 200, 700), 0, 0, 99, 198, 692);
        leaves("a loss of 1 by the greatest", afterLoss(0, 1, 0, 0, 100, 200, 700), 0, 0, 100, 200, 699);
    }

    /** "And one more those with the greatest remainders". */
    private static void greatestRemaindersPayOneMore() {
        // 50 of 400: 12 and 200, 12 and 250, 24 and 350 of 400.
        leaves("2 more", afterLoss(0, 50, 0, 0, 100, 101, 199), 0, 0, 88, 88, 174);
        leaves("the other way round", afterLoss(0, 50, 0, 0, 199, 101, 100), 0, 0, 174, 88, 88);
        // 2 of 2, 1 and 1: 1, and 1/2 and 1/2 of which one pays.
        leaves("a remainder of 0 pays nothing more", afterLoss(0, 2, 0, 0, 2, 1, 1), 0, 0, 1, 0, 1);
        // 3 of 1, 1 and 2: 3/4, 3/4 and 1 and 2/4.
        leaves("greater remainders of smaller shares", afterLoss(0, 3, 0, 0, 1, 1, 2), 0, 0, 0, 0, 1);
        // 1 of 1, 2 and 1.
        leaves("in the middle", afterLoss(0, 1, 0, 0, 1, 2, 1), 0, 0, 1, 1, 1);
        leaves("the last", afterLoss(0, 1, 0, 0, 1, 1, 2), 0, 0, 1, 1, 1);
        leaves("the first", afterLoss(3, 1, 0, 2, 1, 1, 0), 0, 1, 1, 1, 0);
    }

    /** "(Of equal ones the least numbers first) until t is paid". */
    private static void equalRemaindersByTheLeastNumbers() {
        leaves("1 of 1, 1, 1", afterLoss(0, 1, 0, 0, 1, 1, 1), 0, 0, 0, 1, 1);
        leaves("2 of 1, 1, 1", afterLoss(0, 2, 0, 0, 1, 1, 1), 0, 0, 0, 0, 1);
        leaves("3 of 1, 1, 1", afterLoss(0, 3, 0, 0, 1, 1, 1), 0, 0, 0, 0, 0);
        leaves("1 of 1, 1, 1 without 3", afterLoss(3, 1, 0, 1, 1, 1, 0), 0, 0, 1, 1, 0);
        leaves("2 of 1, 1, 1 without 2", afterLoss(2, 2, 0, 1, 1, 0, 1), 0, 0, 0, 0, 1);
        leaves("1 of 1 and 1", afterLoss(1, 1, 0, 0, 0, 1, 1), 0, 0, 0, 0, 1);
        leaves("4 of 5, 5, 5", afterLoss(1, 4, 0, 5, 0, 5, 5), 0, 3, 0, 4, 4);
        leaves("5 of 5, 5, 5", afterLoss(1, 5, 0, 5, 0, 5, 5), 0, 3, 0, 3, 4);
        leaves("6 of 5, 5, 5", afterLoss(1, 6, 0, 5, 0, 5, 5), 0, 3, 0, 3, 3);
    }

    private static void onePayerPaysAll() {
        for (int payer = 1; payer < 4; payer++) {
            int[] shares = new int[4];
            shares[payer] = 30;
            ClearedExchange x = afterLoss(0, 29, 0, shares);
            CHECK.due("29 of 30", x.share(payer), 1);
            CHECK.due("capital", x.cash(4), 0);
        }
    }

    /** Remainders that differ by little, and a loss whose products are far beyond an int. */
    private static void greatNumbersAreSharedExactly() {
        // 89 * 49999 = 4449911, 89 * 50000 = 4450000, 89 * 49998 = 4449822, of 149997: 29 and 99998, 100087, 99909.
        leaves("89 of 149997", afterLoss(0, 89, 0, 0, 49999, 50000, 49998), 0, 0, 49969, 49970, 49969);
        leaves("88 of 149997", afterLoss(0, 88, 0, 0, 49999, 50000, 49998), 0, 0, 49970, 49970, 49969);
        // 949000 of 1200000 by 400001, 400003 and 399996: 316334.12, 316335.71 and 316330.17.
        ClearedExchange x = greatLoss(400001, 400003, 399996);
        leaves("949000 of 1200000", x, 0, 0, 400001 - 316334, 400003 - 316336, 399996 - 316330);
        // 949000 of 948999: the fund is empty, and the capital pays 1.
        leaves("949000 of 948999", greatLoss(400001, 400003, 148995), -1, 0, 0, 0, 0);
        // The remainders are 549000, 548998 and 800004 of 949001, so that members 3 and 1 pay one more.
        leaves("949000 of 949001", greatLoss(400001, 400003, 148997), 0, 0, 0, 1, 0);
    }

    /** Member 0 has 50000 and loses 999 on each of 1000 that it bought from member 3. */
    private static ClearedExchange greatLoss(int... shares) {
        ClearedExchange x = new ClearedExchange(0);
        x.deposit(0, 50000);
        for (int i = 0; i < 3; i++) {
            for (int rest = shares[i]; rest > 0; rest -= 100000) {
                x.deposit(1 + i, Math.min(rest, 100000));
                x.contribute(1 + i, Math.min(rest, 100000));
            }
        }
        x.deposit(3, 50000);
        x.settle(1000, 100);
        x.open(0);
        for (int i = 0; i < 20; i++) {
            x.order(0, 0, true, Setup.LIMIT, 1000, 50);
            x.order(3, 0, false, Setup.LIMIT, 1000, 50);
        }
        CHECK.due("position", x.position(0, 0), 1000);
        CHECK.due("settle", x.settle(1, 100), 1);
        CHECK.due("cash of the seller", x.cash(3), 50000 + 999000);
        return x;
    }

    /** A defaulter that has kept its share does not pay for another. */
    private static void defaultersPayNoPart() {
        ClearedExchange x = beforeLoss(0, 0, new int[] {5, 0, 3, 3});
        x.order(2, 0, true, Setup.LIMIT, 95, 1);
        CHECK.due("settle", x.settle(89, 100), 1);
        CHECK.due("it kept its share", x.share(0), 5);
        x.order(1, 1, true, Setup.LIMIT, 100, 1);
        x.order(2, 1, false, Setup.LIMIT, 100, 1);
        x.open(1);
        x.withdraw(1, (int) x.cash(1) - 10);
        CHECK.due("settle", x.settle(89, 85), 1);
        leaves("a loss of 5", x, 0, 5, 0, 0, 1);
    }

    /** Promise 10: "how many members became defaulters". */
    private static void howManyBecameDefaulters() {
        for (int count = 0; count <= 3; count++) {
            ClearedExchange x = new ClearedExchange(0);
            x.deposit(3, 1000);
            for (int member = 0; member < 3; member++) {
                x.deposit(member, member < count ? 10 : 11);
                x.order(member, 0, true, Setup.LIMIT, 100, 1);
                x.order(3, 0, false, Setup.LIMIT, 100, 1);
            }
            x.open(0);
            CHECK.due("settle with " + count + " that can't pay", x.settle(89, 100), count);
            CHECK.due("capital", x.cash(4), -count);
            CHECK.due("house's position", x.position(4, 0), count);
            CHECK.due("those that were defaulters do not become it", x.settle(89, 100), 0);
        }
    }

    /** "All its orders are DONE (what is left lapses)": the first, the last and those between others' too. */
    private static void allItsOrdersAreDone() {
        for (int mark = 79; mark <= 80; mark++) {
            ClearedExchange x = Setup.withPositions(1000);
            for (int i = 0; i < 9; i++) {
                int kind = i % 3 == 1 ? Setup.STOP : Setup.LIMIT;
                x.order(i % 2 == 0 ? 0 : 1, i % 2, false, kind, kind == Setup.STOP ? 5 : 500, 1 + i);
            }
            CHECK.due("settle", x.settle(mark, 100), mark == 79 ? 1 : 0);
            for (int i = 0; i < 9; i++) {
                int active = i % 3 == 1 ? 1 : 0;
                CHECK.due("state of " + i, x.state(3 + i, 1), i % 2 == 0 && mark == 79 ? 2 : active);
                CHECK.due("left of " + i, x.state(3 + i, 0), 1 + i);
            }
        }
    }

    /** "For all its position, to bring it to 0": with 1 less, just as much and 1 more on the other side. */
    private static void closingFillsWhatItCan() {
        for (int quantity = 49; quantity <= 51; quantity++) {
            ClearedExchange x = Setup.withPositions(1000);
            x.deposit(1, 10000);
            x.order(1, 0, true, Setup.LIMIT, 60, 40);
            x.order(1, 0, true, Setup.LIMIT, 60, quantity - 40);
            CHECK.due("settle", x.settle(70, 100), 1);
            CHECK.due("trades", x.trades(), 3);
            CHECK.due("house's position", x.position(4, 0), quantity == 49 ? 1 : 0);
            CHECK.due("position of who bought", x.position(1, 0), Math.min(quantity, 50));
            CHECK.due("left of its order", x.state(4, 0), quantity == 51 ? 1 : 0);
            CHECK.due("position", x.position(0, 0), 0);
            CHECK.due("capital", x.cash(4), -500 - 10 * Math.min(quantity, 50));
        }
    }

    /** The same for a position of -1 and for one of -2, with 0, 1, 2 and 3 to buy. */
    private static void closingOfASale() {
        for (int position = -2; position <= -1; position++) {
            for (int offered = 0; offered <= 3; offered++) {
                ClearedExchange x = new ClearedExchange(0);
                x.deposit(0, 10);
                x.deposit(1, 1000);
                x.open(1);
                x.order(0, 1, false, Setup.LIMIT, 100, -position);
                x.order(1, 1, true, Setup.LIMIT, 100, -position);
                if (offered > 0) {
                    x.order(1, 1, false, Setup.LIMIT, 130, offered);
                }
                int met = Math.min(offered, -position);
                CHECK.due("settle", x.settle(100, 120), 1);
                CHECK.due("position", x.position(0, 1), 0);
                CHECK.due("house's position", x.position(4, 1), position + met);
                CHECK.due("house's cost", x.cost(4, 1), 120 * (position + met));
                CHECK.due("capital", x.cash(4), 10 + 20 * position - 10 * met);
                CHECK.due("last", x.last(1), met > 0 ? 130 : 100);
                CHECK.due("what is still offered", x.volume(1, false, 130), offered - met);
            }
        }
    }

    /** "If OPEN": one contract in CALL goes to the house, the other is closed. */
    private static void closingInCall() {
        for (int closed = 0; closed < 2; closed++) {
            ClearedExchange x = Setup.opened(1000);
            x.deposit(3, 10000);
            for (int contract = 0; contract < 2; contract++) {
                x.order(3, contract, false, Setup.LIMIT, 100, 10);
                x.order(0, contract, true, Setup.LIMIT, 100, 10);
                x.order(3, contract, true, Setup.LIMIT, 30, 10);
            }
            x.call(closed);
            CHECK.due("settle", x.settle(40, 40), 1);
            CHECK.due("trades", x.trades(), 3);
            CHECK.due("house's position in CALL", x.position(4, closed), 10);
            CHECK.due("house's position when OPEN", x.position(4, 1 - closed), 0);
            CHECK.due("the order in CALL rests", x.state(closed == 0 ? 3 : 6, 1), 0);
            CHECK.due("capital", x.cash(4), 1000 - 1200 - 100);
        }
    }

    /** "After each closing": a stop that the closing just reaches is met before the next closing. */
    private static void stopsAfterEachClosing() {
        int[] states = {1, 2, 2};
        for (int i = 0; i < 3; i++) {
            ClearedExchange x = Setup.opened(1000);
            x.deposit(3, 10000);
            for (int contract = 0; contract < 2; contract++) {
                x.order(3, contract, false, Setup.LIMIT, 100, 10);
                x.order(0, contract, true, Setup.LIMIT, 100, 10);
                x.order(3, contract, true, Setup.LIMIT, 30, 12);
            }
            x.order(2, 0, false, Setup.STOP, 29 + i, 2);
            CHECK.due("settle", x.settle(40, 40), 1);
            CHECK.due("a sell stop at " + (29 + i), x.state(7, 1), states[i]);
            CHECK.due("trades", x.trades(), states[i] == 2 ? 5 : 4);
            CHECK.due("the latest is the closing of contract 1", x.trade(0, 2), 1);
            CHECK.due("before it the stop, or the closing of contract 0", x.trade(1, 1), states[i] == 2 ? 2 : 0);
        }
    }
}
