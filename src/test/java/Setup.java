/** Objects in states that many tests begin with. */
final class Setup {
    static final int LIMIT = 0;
    static final int IMMEDIATE = 1;
    static final int WHOLE = 2;
    static final int PASSIVE = 3;
    static final int MARKET = 4;
    static final int STOP = 5;

    private Setup() {
    }

    /** Rate 500, every member with so much cash, both contracts in CALL. */
    static ClearedExchange inCall(int cash) {
        ClearedExchange x = new ClearedExchange(0);
        for (int member = 0; member < 4; member++) {
            x.deposit(member, cash);
        }
        return x;
    }

    /** The same, with both contracts OPEN. */
    static ClearedExchange opened(int cash) {
        ClearedExchange x = inCall(cash);
        x.open(0);
        x.open(1);
        return x;
    }

    /** Member 0 has bought 50 of contract 0 at 100 from member 3. */
    static ClearedExchange withPositions(int cash) {
        ClearedExchange x = opened(cash);
        x.order(3, 0, false, LIMIT, 100, 50);
        x.order(0, 0, true, LIMIT, 100, 50);
        return x;
    }

    /** The same, and member 0 could not pay: it is a defaulter, and the house has its position. */
    static ClearedExchange withDefaulter() {
        ClearedExchange x = withPositions(1000);
        x.settle(70, 100);
        return x;
    }

    /** An object of which every question has something to tell: 18 messages, 8 orders, 1 trade. */
    static ClearedExchange busy() {
        ClearedExchange x = withPositions(100000);
        x.deposit(2, 100000);
        x.contribute(1, 300);
        x.contribute(2, 200);
        x.endow(400);
        x.order(1, 0, true, LIMIT, 90, 5);
        x.order(2, 0, false, LIMIT, 110, 6);
        x.order(1, 0, true, STOP, 150, 2);
        x.order(2, 1, true, LIMIT, 80, 7);
        x.order(3, 1, false, LIMIT, 120, 8);
        x.order(3, 1, false, STOP, 50, 3);
        return x;
    }
}
