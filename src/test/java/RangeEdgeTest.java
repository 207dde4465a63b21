/**
 * The ranges of all numbers: at both ends of each, just inside, just outside and far outside. "MESSAGES are the calls
 * .. with numbers in their ranges; others answer -1 and are none."
 */
public final class RangeEdgeTest {
    private static final Check CHECK = new Check("RangeEdgeTest");

    /** Numbers far outside, among them those that a narrower type or a mask would take for small ones. */
    private static final int[] FAR = {
        Integer.MIN_VALUE, Integer.MIN_VALUE + 1, Integer.MIN_VALUE + 50, -65536, -65535, -256, -255, -100, -4, -2,
        256, 257, 65536, 65537, 131073, 1 << 24, (1 << 24) + 1, Integer.MAX_VALUE - 1, Integer.MAX_VALUE,
    };

    private static final int[] AMOUNTS = {1, 2, 65536, 99999, 100000};

    /** A call in which one number is looked at. */
    private interface Call {
        long on(ClearedExchange x, int number);
    }

    public static void main(String[] args) {
        depositAmount();
        depositMember();
        withdrawAmount();
        withdrawMember();
        contributeAmount();
        contributeMember();
        endowAmount();
        orderMember();
        orderContract();
        orderKind();
        orderPrice();
        orderQuantity();
        cancelNumber();
        callContract();
        openContract();
        settleMarks();
        severalNumbersOutside();
        cashMembers();
        shareMembers();
        positionMembersAndContracts();
        costMembersAndContracts();
        spareMembers();
        defaulterMembers();
        bestContracts();
        volumeContracts();
        volumePrices();
        lastContracts();
        phaseContracts();
        stateNumbers();
        stateFields();
        tradeNumbers();
        tradeFields();
        replyNumbers();
        CHECK.end();
    }

    /** In the range the call is a message with this answer; outside it is none. */
    private static void edges(String what, int least, int most, long answer, Call call) {
        for (int number : new int[] {least, least + 1, most - 1, most}) {
            isMessage(what + " with " + number, number, answer, call);
        }
        isNone(what + " with " + (least - 1), least - 1, call);
        isNone(what + " with " + (most + 1), most + 1, call);
        for (int number : FAR) {
            if (number < least || number > most) {
                isNone(what + " with " + number, number, call);
            }
        }
    }

    private static void isMessage(String what, int number, long answer, Call call) {
        ClearedExchange x = Setup.busy();
        CHECK.due(what, call.on(x, number), answer);
        CHECK.due(what + ": it is a message", x.messages(), 19);
        CHECK.due(what + ": its reply", x.reply(19), answer);
    }

    private static void isNone(String what, int number, Call call) {
        ClearedExchange x = Setup.busy();
        x.light(2);
        long[] before = Snapshot.of(x);
        CHECK.due(what, call.on(x, number), -1);
        CHECK.due(what + ": it is no message", x.messages(), 18);
        CHECK.due(what + ": it has no reply", x.reply(19), -1);
        CHECK.same(what + ": it does nothing", Snapshot.of(x), before);
        CHECK.due(what + ": it takes no unit of the fuse", x.endow(1), 0);
    }

    /** Promise 2: "Cash grows by amount (1 .. 100000): 0". */
    private static void depositAmount() {
        edges("deposit amount", 1, 100000, 0, (x, n) -> x.deposit(1, n));
        for (int amount : AMOUNTS) {
            ClearedExchange x = new ClearedExchange(0);
            x.deposit(1, amount);
            CHECK.due("cash after a deposit of " + amount, x.cash(1), amount);
        }
    }

    /** Promise 2 and "MEMBERS 0 .. 3": the house is no member here. */
    private static void depositMember() {
        edges("deposit member", 0, 3, 0, (x, n) -> x.deposit(n, 7));
        for (int member = 0; member < 4; member++) {
            ClearedExchange x = new ClearedExchange(0);
            x.deposit(member, 7);
            for (int other = 0; other < 5; other++) {
                CHECK.due("cash of " + other + " after a deposit of " + member, x.cash(other), other == member ? 7 : 0);
            }
        }
    }

    /** Promise 3: "Cash falls by amount (1 .. 100000): 0". */
    private static void withdrawAmount() {
        edges("withdraw amount", 1, 100000, 0, (x, n) -> x.withdraw(2, n));
        for (int amount : AMOUNTS) {
            ClearedExchange x = new ClearedExchange(0);
            x.deposit(1, 100000);
            CHECK.due("withdraw " + amount, x.withdraw(1, amount), 0);
            CHECK.due("cash after a withdrawal of " + amount, x.cash(1), 100000 - amount);
            CHECK.due("share after a withdrawal of " + amount, x.share(1), 0);
        }
    }

    /** Promise 3 and "MEMBERS 0 .. 3". */
    private static void withdrawMember() {
        edges("withdraw member", 0, 3, 0, (x, n) -> x.withdraw(n, 7));
    }

    /** Promise 4: "As withdraw, but the fund share grows by it." */
    private static void contributeAmount() {
        edges("contribute amount", 1, 100000, 0, (x, n) -> x.contribute(2, n));
        for (int amount : AMOUNTS) {
            ClearedExchange x = new ClearedExchange(0);
            x.deposit(1, 100000);
            CHECK.due("contribute " + amount, x.contribute(1, amount), 0);
            CHECK.due("cash after a contribution of " + amount, x.cash(1), 100000 - amount);
            CHECK.due("share after a contribution of " + amount, x.share(1), amount);
        }
    }

    /** Promise 4 and "MEMBERS 0 .. 3": the house has no fund share. */
    private static void contributeMember() {
        edges("contribute member", 0, 3, 0, (x, n) -> x.contribute(n, 7));
    }

    /** Promise 5: "The house's capital grows by amount (1 .. 100000): 0." */
    private static void endowAmount() {
        edges("endow amount", 1, 100000, 0, (x, n) -> x.endow(n));
        for (int amount : AMOUNTS) {
            ClearedExchange x = new ClearedExchange(0);
            x.endow(amount);
            CHECK.due("capital after an endowment of " + amount, x.cash(4), amount);
        }
    }

    /** Promise 6 and "MEMBERS 0 .. 3": the house gives no orders. */
    private static void orderMember() {
        edges("order member", 0, 3, 9, (x, n) -> x.order(n, 0, true, Setup.LIMIT, 50, 1));
    }

    /** Promise 6 and "CONTRACTS 0 and 1". */
    private static void orderContract() {
        edges("order contract", 0, 1, 9, (x, n) -> x.order(0, n, true, Setup.LIMIT, 50, 1));
    }

    /** Promise 6: "kind 0 .. 5". */
    private static void orderKind() {
        edges("order kind", 0, 5, 9, (x, n) -> x.order(0, 0, true, n, 100, 1));
        int[] status = {0, 2, 2, 0, 2, 1};
        for (int kind = 0; kind < 6; kind++) {
            ClearedExchange x = Setup.busy();
            int price = kind == Setup.WHOLE ? 110 : kind == Setup.STOP ? 160 : 100;
            CHECK.due("an order of kind " + kind, x.order(0, 0, true, kind, price, 1), 9);
            CHECK.due("rests, waits or is done by its kind " + kind, x.state(9, 1), status[kind]);
        }
    }

    /** Promise 6: "price 1 .. 1000", and of MARKET "its own means nothing, but is 1 .. 1000". */
    private static void orderPrice() {
        for (int kind : new int[] {Setup.LIMIT, Setup.IMMEDIATE, Setup.MARKET, Setup.STOP}) {
            edges("order price of kind " + kind, 1, 1000, 9, (x, n) -> x.order(0, 1, true, kind, n, 1));
            edges("sell price of kind " + kind, 1, 1000, 9, (x, n) -> x.order(0, 1, false, kind, n, 1));
        }
        edges("order price of WHOLE", 1, 1000, 9, (x, n) -> wholeThatIsMet(x, n));
        edges("order price of PASSIVE", 1, 1000, 9, (x, n) -> passiveThatMeetsNone(x, n));
    }

    private static long wholeThatIsMet(ClearedExchange x, int price) {
        return x.order(0, 1, price > 500, Setup.WHOLE, price, 1);
    }

    private static long passiveThatMeetsNone(ClearedExchange x, int price) {
        return x.order(0, 1, price < 500, Setup.PASSIVE, price, 1);
    }

    /** Promise 6: "quantity 1 .. 50". */
    private static void orderQuantity() {
        for (int kind : new int[] {Setup.LIMIT, Setup.IMMEDIATE, Setup.PASSIVE, Setup.MARKET, Setup.STOP}) {
            edges("order quantity of kind " + kind, 1, 50, 9, (x, n) -> x.order(1, 0, false, kind, 200, n));
        }
        for (int quantity : new int[] {1, 2, 49, 50}) {
            ClearedExchange x = Setup.inCall(1000);
            x.order(0, 0, true, Setup.LIMIT, 100, quantity);
            CHECK.due("left of an order of " + quantity, x.state(1, 0), quantity);
        }
        wholeQuantity();
    }

    private static void wholeQuantity() {
        for (int quantity : new int[] {-1, 0, 1, 2, 49, 50, 51}) {
            ClearedExchange x = Setup.opened(10000);
            x.order(1, 0, false, Setup.LIMIT, 100, 50);
            x.order(2, 0, false, Setup.LIMIT, 100, 50);
            boolean inRange = quantity >= 1 && quantity <= 50;
            CHECK.due("WHOLE of " + quantity, x.order(0, 0, true, Setup.WHOLE, 100, quantity), inRange ? 3 : -1);
            CHECK.due("position after it", x.position(0, 0), inRange ? quantity : 0);
        }
    }

    /** Promise 7: "0 when there is none such with that number (1 .. 1000)". */
    private static void cancelNumber() {
        // Orders 1 and 2 are done, and 9 and above were not taken.
        for (int number : new int[] {1, 2, 9, 10, 511, 512, 513, 999, 1000}) {
            isMessage("cancel number " + number, number, 0, (x, n) -> x.cancel(n));
        }
        for (int number : new int[] {0, -1, -2, 1001, 1002, 65537, Integer.MIN_VALUE, Integer.MAX_VALUE}) {
            isNone("cancel number " + number, number, (x, n) -> x.cancel(n));
        }
        int[] left = {5, 6, 2, 7, 8, 3};
        for (int i = 0; i < left.length; i++) {
            isMessage("cancel number " + (3 + i), 3 + i, left[i], (x, n) -> x.cancel(n));
        }
    }

    /** Promise 8 and "CONTRACTS 0 and 1". */
    private static void callContract() {
        edges("call contract", 0, 1, 1, (x, n) -> x.call(n));
    }

    /** Promise 9 and "CONTRACTS 0 and 1". */
    private static void openContract() {
        edges("open contract", 0, 1, -3, (x, n) -> x.open(n));
        for (int contract = 0; contract < 2; contract++) {
            ClearedExchange x = new ClearedExchange(0);
            CHECK.due("open of " + contract + " in CALL", x.open(contract), 0);
            CHECK.due("its phase", x.phase(contract), 1);
            CHECK.due("phase of the other", x.phase(1 - contract), 0);
        }
    }

    /** Promise 10: "A settlement at marks 1 .. 1000". */
    private static void settleMarks() {
        edges("first mark", 1, 1000, 0, (x, n) -> x.settle(n, 100));
        edges("second mark", 1, 1000, 0, (x, n) -> x.settle(100, n));
        for (int mark : new int[] {1, 2, 999, 1000}) {
            ClearedExchange x = Setup.inCall(1000);
            x.order(0, 0, true, Setup.LIMIT, 1, 20);
            x.order(1, 1, true, Setup.LIMIT, 1, 20);
            x.settle(mark, 100);
            CHECK.due("what 20 require at the first mark " + mark, x.spare(0), 1000 - mark);
            CHECK.due("the second mark is untouched", x.spare(1), 900);
            x.settle(100, mark);
            CHECK.due("what 20 require at the second mark " + mark, x.spare(1), 1000 - mark);
            CHECK.due("the first mark is untouched", x.spare(0), 900);
        }
    }

    private static void severalNumbersOutside() {
        isNone("deposit", 0, (x, n) -> x.deposit(4, 0));
        isNone("withdraw", 0, (x, n) -> x.withdraw(-1, 100001));
        isNone("contribute", 0, (x, n) -> x.contribute(4, 100001));
        isNone("order", 0, (x, n) -> x.order(4, 2, true, 6, 1001, 51));
        isNone("order", 0, (x, n) -> x.order(-1, -1, false, -1, 0, 0));
        isNone("settle", 0, (x, n) -> x.settle(0, 1001));
    }

    /** What a question answers of the numbers -1, 0, 1, .. in turn; of those far outside it is the same as of -1. */
    private static void row(String what, ClearedExchange x, long[] due, Call question) {
        for (int i = 0; i < due.length; i++) {
            CHECK.due(what + " of " + (i - 1), question.on(x, i - 1), due[i]);
        }
        for (int number : FAR) {
            CHECK.due(what + " of " + number, question.on(x, number), due[0]);
        }
    }

    /** Promise 16: "(member 4: the house's capital); -1 when there is no such member". */
    private static void cashMembers() {
        row("cash", Setup.busy(), new long[] {-1, 100000, 99700, 199800, 100000, 400, -1, -1}, (x, n) -> x.cash(n));
    }

    /** Promise 17: "-1 when there is no such member": the house is none. */
    private static void shareMembers() {
        row("share", Setup.busy(), new long[] {-1, 0, 300, 200, 0, -1, -1, -1}, (x, n) -> x.share(n));
    }

    /** Member 0 was closed out with 50 of contract 0 and -30 of contract 1, which member 3 holds the other side of. */
    private static ClearedExchange houseWithPositions() {
        ClearedExchange x = Setup.opened(1000);
        x.deposit(3, 20000);
        x.order(3, 0, false, Setup.LIMIT, 100, 50);
        x.order(0, 0, true, Setup.LIMIT, 100, 50);
        x.order(3, 1, true, Setup.LIMIT, 100, 30);
        x.order(0, 1, false, Setup.LIMIT, 100, 30);
        x.settle(85, 115);
        return x;
    }

    /** Promise 18: "A position of a member (4: the house); -1 when there is no such one." */
    private static void positionMembersAndContracts() {
        ClearedExchange x = houseWithPositions();
        row("position in 0", x, new long[] {-1, 0, 0, 0, -50, 50, -1, -1}, (y, n) -> y.position(n, 0));
        row("position in 1", x, new long[] {-1, 0, 0, 0, 30, -30, -1, -1}, (y, n) -> y.position(n, 1));
        row("position in 2", x, new long[] {-1, -1, -1, -1, -1, -1, -1, -1}, (y, n) -> y.position(n, 2));
        row("position in -1", x, new long[] {-1, -1, -1, -1, -1, -1, -1, -1}, (y, n) -> y.position(n, -1));
        row("position of 3", x, new long[] {-1, -50, 30, -1, -1}, (y, n) -> y.position(3, n));
        row("position of 4", x, new long[] {-1, 50, -30, -1, -1}, (y, n) -> y.position(4, n));
    }

    /** Promise 19: "A cost of a member (4: the house); -1 when there is no such one." */
    private static void costMembersAndContracts() {
        ClearedExchange x = houseWithPositions();
        row("cost in 0", x, new long[] {-1, 0, 0, 0, -4250, 4250, -1, -1}, (y, n) -> y.cost(n, 0));
        row("cost in 1", x, new long[] {-1, 0, 0, 0, 3450, -3450, -1, -1}, (y, n) -> y.cost(n, 1));
        row("cost in 2", x, new long[] {-1, -1, -1, -1, -1, -1, -1, -1}, (y, n) -> y.cost(n, 2));
        row("cost in -1", x, new long[] {-1, -1, -1, -1, -1, -1, -1, -1}, (y, n) -> y.cost(n, -1));
        row("cost of 3", x, new long[] {-1, -4250, 3450, -1, -1}, (y, n) -> y.cost(3, n));
        row("cost of 4", x, new long[] {-1, 4250, -3450, -1, -1}, (y, n) -> y.cost(4, n));
    }

    /** Promise 20: "-1 when there is no such member": the house is none. */
    private static void spareMembers() {
        row("spare", Setup.busy(), new long[] {-1, 99750, 99665, 199735, 99695, -1, -1, -1}, (x, n) -> x.spare(n));
    }

    /** Promise 21: "false when there is no such one". */
    private static void defaulterMembers() {
        row("defaulter", Setup.withDefaulter(), new long[] {0, 1, 0, 0, 0, 0, 0}, (x, n) -> x.defaulter(n) ? 1 : 0);
        ClearedExchange last = Setup.opened(1000);
        last.order(0, 0, true, Setup.LIMIT, 100, 50);
        last.order(3, 0, false, Setup.LIMIT, 100, 50);
        last.settle(121, 100);
        row("defaulter", last, new long[] {0, 0, 0, 0, 1, 0, 0}, (x, n) -> x.defaulter(n) ? 1 : 0);
    }

    /** Promise 22: "-1 when there is no such contract". */
    private static void bestContracts() {
        row("best buy", Setup.busy(), new long[] {-1, 90, 80, -1, -1}, (x, n) -> x.best(n, true));
        row("best sell", Setup.busy(), new long[] {-1, 110, 120, -1, -1}, (x, n) -> x.best(n, false));
    }

    /** Promise 23: "-1 when there is no such contract". */
    private static void volumeContracts() {
        row("buys at 90", Setup.busy(), new long[] {-1, 5, 0, -1, -1}, (x, n) -> x.volume(n, true, 90));
        row("sells at 120", Setup.busy(), new long[] {-1, 0, 8, -1, -1}, (x, n) -> x.volume(n, false, 120));
        row("buys at no price", Setup.busy(), new long[] {-1, 0, 0, -1, -1}, (x, n) -> x.volume(n, true, 0));
    }

    /** Promise 23: "at a price", not at the next ones; no order rests at a price that is none. */
    private static void volumePrices() {
        ClearedExchange x = Setup.inCall(10000);
        x.order(0, 0, true, Setup.LIMIT, 1, 3);
        x.order(0, 0, true, Setup.LIMIT, 1000, 4);
        x.order(1, 0, true, Setup.LIMIT, 1000, 50);
        int[][] due = {{0, 0}, {1, 3}, {2, 0}, {999, 0}, {1000, 54}, {1001, 0}};
        for (int[] pair : due) {
            CHECK.due("buys at " + pair[0], x.volume(0, true, pair[0]), pair[1]);
            CHECK.due("sells at " + pair[0], x.volume(0, false, pair[0]), 0);
        }
        for (int price : FAR) {
            CHECK.due("buys at " + price, x.volume(0, true, price), 0);
        }
    }

    /** Promise 24: "-1 when there is no such contract". */
    private static void lastContracts() {
        row("last", Setup.busy(), new long[] {-1, 100, 0, -1, -1}, (x, n) -> x.last(n));
    }

    /** Promise 25: "0 CALL, 1 OPEN; -1 when there is no such contract". */
    private static void phaseContracts() {
        ClearedExchange x = new ClearedExchange(0);
        row("phase", x, new long[] {-1, 0, 0, -1, -1}, (y, n) -> y.phase(n));
        x.open(1);
        row("phase", x, new long[] {-1, 0, 1, -1, -1}, (y, n) -> y.phase(n));
    }

    /** Promise 26: "-1 when there is none with that number". */
    private static void stateNumbers() {
        ClearedExchange x = Setup.busy();
        row("left", x, new long[] {-1, -1, 0, 0, 5, 6, 2, 7, 8, 3, -1, -1}, (y, n) -> y.state(n, 0));
        row("state", x, new long[] {-1, -1, 2, 2, 0, 0, 1, 0, 0, 1, -1, -1}, (y, n) -> y.state(n, 1));
        for (int number : new int[] {511, 512, 513, 999, 1000, 1001}) {
            CHECK.due("left of " + number, x.state(number, 0), -1);
        }
    }

    /** Promise 26: "-1 when .. w is neither". */
    private static void stateFields() {
        row("order 5 by w", Setup.busy(), new long[] {-1, 2, 1, -1, -1}, (x, n) -> x.state(5, n));
        row("no order by w", Setup.busy(), new long[] {-1, -1, -1, -1, -1}, (x, n) -> x.state(9, n));
    }

    /** Promise 28: "-1 when there was none such, k is not 0 .. 15". */
    private static void tradeNumbers() {
        row("one trade", Setup.busy(), new long[] {-1, 50, -1, -1, -1}, (x, n) -> x.trade(n, 4));
        row("no trade", new ClearedExchange(0), new long[] {-1, -1, -1, -1, -1}, (x, n) -> x.trade(n, 4));
    }

    /** Promise 28: "or w not 0 .. 4". */
    private static void tradeFields() {
        row("trade by w", Setup.busy(), new long[] {-1, 0, 3, 0, 100, 50, -1, -1}, (x, n) -> x.trade(0, n));
        row("no trade by w", Setup.busy(), new long[] {-1, -1, -1, -1, -1, -1, -1}, (x, n) -> x.trade(1, n));
    }

    /** Promise 15: "message k (from 1) ..; -1 when there is none". */
    private static void replyNumbers() {
        ClearedExchange x = Setup.inCall(100);
        x.withdraw(0, 101);
        row("reply", x, new long[] {-1, -1, 0, 0, 0, 0, -5, -1, -1}, (y, n) -> y.reply(n));
        row("reply of a new object", new ClearedExchange(0), new long[] {-1, -1, -1, -1}, (y, n) -> y.reply(n));
    }
}
