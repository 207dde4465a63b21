/** An exchange for two contracts with its clearing house, as ../shared/DOC.md promises it. */
public final class ClearedExchange {
    private static final int MEMBERS = 4;
    private static final int HOUSE = 4;
    private static final int CONTRACTS = 2;
    private static final int FIRST_MARK = 100;

    private static final int MOST_MESSAGES = 512;
    private static final int MOST_AMOUNT = 100_000;
    private static final int MOST_PRICE = 1000;
    private static final int MOST_QUANTITY = 50;
    private static final int MOST_ORDER_NUMBER = 1000;
    private static final int MOST_UNITS = 200;
    private static final int MOST_ACTIVE = 20;

    private static final int KEPT_TRADES = 16;
    private static final int TRADE_FIELDS = 5;

    private static final int LIMIT = 0;
    private static final int WHOLE = 2;
    private static final int PASSIVE = 3;
    private static final int MARKET = 4;
    private static final int STOP = 5;

    private static final int RESTING = 0;
    private static final int WAITING = 1;
    private static final int DONE = 2;

    private static final int ACCEPTED = 0;
    private static final int NONE = -1;
    private static final int IN_DEFAULT = -2;
    private static final int WRONG_PHASE = -3;
    private static final int TOO_MANY = -4;
    private static final int NOT_COVERED = -5;
    private static final int NOT_PASSIVE = -6;
    private static final int NOT_WHOLE = -7;
    private static final int DOWN = -9;

    private final Journal journal;
    private final ClearingHouse house;
    private final Market market;

    public ClearedExchange(int rate) {
        journal = new Journal();
        house = new ClearingHouse(500 + 100 * (rate & 15));
        market = house.market;
    }

    public int deposit(int member, int amount) {
        int refusal = write(isMember(member) && isIn(amount, 1, MOST_AMOUNT));
        return refusal != ACCEPTED ? refusal : answer(house.payIn(member, amount));
    }

    public int withdraw(int member, int amount) {
        int refusal = write(isMember(member) && isIn(amount, 1, MOST_AMOUNT));
        return refusal != ACCEPTED ? refusal : answer(house.payOut(member, amount));
    }

    public int contribute(int member, int amount) {
        int refusal = write(isMember(member) && isIn(amount, 1, MOST_AMOUNT));
        return refusal != ACCEPTED ? refusal : answer(house.payIntoFund(member, amount));
    }

    public int endow(int amount) {
        int refusal = write(isIn(amount, 1, MOST_AMOUNT));
        return refusal != ACCEPTED ? refusal : answer(house.payIntoCapital(amount));
    }

    public int order(int member, int contract, boolean buy, int kind, int price, int quantity) {
        int refusal = write(isMember(member) && isContract(contract) && isIn(kind, LIMIT, STOP)
                && isIn(price, 1, MOST_PRICE) && isIn(quantity, 1, MOST_QUANTITY));
        if (refusal != ACCEPTED) {
            return refusal;
        }
        return answer(house.enter(new Order(member, contract, buy, kind, price, quantity)));
    }

    public int cancel(int order) {
        int refusal = write(isIn(order, 1, MOST_ORDER_NUMBER));
        return refusal != ACCEPTED ? refusal : answer(market.book.lapse(order));
    }

    public int call(int contract) {
        int refusal = write(isContract(contract));
        return refusal != ACCEPTED ? refusal : answer(market.halt(contract));
    }

    public int open(int contract) {
        int refusal = write(isContract(contract));
        return refusal != ACCEPTED ? refusal : answer(market.holdAuction(contract));
    }

    public int settle(int mark0, int mark1) {
        int refusal = write(isIn(mark0, 1, MOST_PRICE) && isIn(mark1, 1, MOST_PRICE));
        return refusal != ACCEPTED ? refusal : answer(house.settleAt(mark0, mark1));
    }

    public boolean light(int n) {
        if (journal.isDown || !isIn(n, 0, MOST_UNITS)) {
            return false;
        }
        journal.fuse = n;
        return true;
    }

    public boolean down() {
        return journal.isDown;
    }

    public int recover() {
        return journal.isDown ? journal.restart() : NONE;
    }

    public int messages() {
        return journal.isDown ? DOWN : journal.written;
    }

    public int reply(int k) {
        return journal.isDown ? DOWN : journal.replyTo(k);
    }

    public long cash(int member) {
        if (journal.isDown) {
            return DOWN;
        }
        return isAccount(member) ? market.accounts[member].cash : NONE;
    }

    public long share(int member) {
        if (journal.isDown) {
            return DOWN;
        }
        return isMember(member) ? market.accounts[member].share : NONE;
    }

    public int position(int member, int contract) {
        if (journal.isDown) {
            return DOWN;
        }
        return isAccount(member) && isContract(contract) ? market.accounts[member].positions[contract] : NONE;
    }

    public long cost(int member, int contract) {
        if (journal.isDown) {
            return DOWN;
        }
        return isAccount(member) && isContract(contract) ? market.accounts[member].costs[contract] : NONE;
    }

    public long spare(int member) {
        if (journal.isDown) {
            return DOWN;
        }
        return isMember(member) ? house.spareOf(member, null) : NONE;
    }

    public boolean defaulter(int member) {
        return !journal.isDown && isMember(member) && market.accounts[member].inDefault;
    }

    public int best(int contract, boolean buy) {
        if (journal.isDown) {
            return DOWN;
        }
        if (!isContract(contract)) {
            return NONE;
        }
        Order first = market.book.firstOf(contract, buy);
        return first == null ? 0 : first.price;
    }

    public int volume(int contract, boolean buy, int price) {
        if (journal.isDown) {
            return DOWN;
        }
        return isContract(contract) ? market.book.restingBetween(contract, buy, price, price) : NONE;
    }

    public int last(int contract) {
        if (journal.isDown) {
            return DOWN;
        }
        return isContract(contract) ? market.listings[contract].last : NONE;
    }

    public int phase(int contract) {
        if (journal.isDown) {
            return DOWN;
        }
        if (!isContract(contract)) {
            return NONE;
        }
        return market.listings[contract].isOpen ? 1 : 0;
    }

    public int state(int order, int w) {
        if (journal.isDown) {
            return DOWN;
        }
        Order taken = market.book.find(order);
        if (taken == null || !isIn(w, 0, 1)) {
            return NONE;
        }
        return w == 0 ? taken.left : taken.status;
    }

    public int trades() {
        return journal.isDown ? DOWN : market.tape.count;
    }

    public int trade(int k, int w) {
        return journal.isDown ? DOWN : market.tape.read(k, w);
    }

    /** ACCEPTED when the call is a message and is now in the journal, or what the call answers otherwise. */
    private int write(boolean inRange) {
        if (journal.isDown) {
            return DOWN;
        }
        return inRange ? journal.write() : NONE;
    }

    private int answer(int reply) {
        market.fireStops();
        return journal.answerWith(reply);
    }

    private static boolean isIn(int number, int least, int most) {
        return number >= least && number <= most;
    }

    private static boolean isMember(int member) {
        return isIn(member, 0, MEMBERS - 1);
    }

    private static boolean isAccount(int member) {
        return isMember(member) || member == HOUSE;
    }

    private static boolean isContract(int contract) {
        return isIn(contract, 0, CONTRACTS - 1);
    }

    /**
     * The journal keeps the replies alone: a message is done if and only if it was written, so what the
     * machine holds when it goes down is already what the messages of the journal have left.
     */
    private static final class Journal {
        private static final int UNLIT = -1;

        private final int[] replies = new int[MOST_MESSAGES];
        private int written = 0;
        private int fuse = UNLIT;
        private boolean isDown = false;

        private int write() {
            // Only an object that is used beyond its 512 calls comes here with a full journal.
            if (written >= MOST_MESSAGES) {
                return NONE;
            }
            if (!burnUnit()) {
                return DOWN;
            }
            written++;
            return ACCEPTED;
        }

        private int answerWith(int reply) {
            replies[written - 1] = reply;
            return burnUnit() ? reply : DOWN;
        }

        private boolean burnUnit() {
            if (fuse == UNLIT) {
                return true;
            }
            if (fuse == 0) {
                isDown = true;
                return false;
            }
            fuse--;
            return true;
        }

        private int restart() {
            isDown = false;
            fuse = UNLIT;
            return written;
        }

        private int replyTo(int k) {
            return isIn(k, 1, written) ? replies[k - 1] : NONE;
        }
    }

    private static final class Account {
        private final int[] positions = new int[CONTRACTS];
        private final long[] costs = new long[CONTRACTS];
        private long cash = 0;
        private long share = 0;
        private boolean inDefault = false;

        /** A sale is a purchase of a quantity below 0. */
        private void buy(int contract, int quantity, int price) {
            positions[contract] += quantity;
            costs[contract] += (long) price * quantity;
        }

        private long gain(int contract, int mark) {
            return (long) positions[contract] * mark - costs[contract];
        }

        private void realise(int contract, int mark) {
            cash += gain(contract, mark);
            costs[contract] = (long) positions[contract] * mark;
        }

        private void takeCostsFromCash() {
            for (int contract = 0; contract < CONTRACTS; contract++) {
                cash -= costs[contract];
                costs[contract] = 0;
            }
        }
    }

    private static final class Listing {
        private int mark = FIRST_MARK;
        private int last = 0;
        private boolean isOpen = false;
    }

    private static final class Order {
        private final int member;
        private final int contract;
        private final boolean buy;
        private final int price;
        private int kind;
        private int left;
        private int status = DONE;

        private Order(int member, int contract, boolean buy, int kind, int price, int quantity) {
            this.member = member;
            this.contract = contract;
            this.buy = buy;
            this.kind = kind;
            this.price = price;
            this.left = quantity;
        }

        private boolean staysActive() {
            return kind == LIMIT || kind == PASSIVE || kind == STOP;
        }

        private int leastAllowed() {
            return buy || kind == MARKET ? 1 : price;
        }

        private int mostAllowed() {
            return buy && kind != MARKET ? price : MOST_PRICE;
        }

        private boolean allows(int otherPrice) {
            return isIn(otherPrice, leastAllowed(), mostAllowed());
        }

        private boolean isRestingOn(int aContract, boolean buySide) {
            return status == RESTING && contract == aContract && buy == buySide;
        }

        private boolean isReachedBy(Listing listing) {
            if (status != WAITING || !listing.isOpen || listing.last == 0) {
                return false;
            }
            return buy ? listing.last >= price : listing.last <= price;
        }
    }

    /** All orders that were taken; those that rest or wait stand in the order in which they were taken. */
    private static final class Book {
        private final Order[] taken = new Order[MOST_MESSAGES];
        private final Order[] active = new Order[MOST_ACTIVE];
        private int takenCount = 0;
        private int activeCount = 0;

        private int register(Order order) {
            // One message takes one order, so the row is as long as the journal and is never full here.
            if (takenCount < MOST_MESSAGES) {
                taken[takenCount] = order;
                takenCount++;
            }
            return takenCount;
        }

        private Order find(int number) {
            return isIn(number, 1, takenCount) ? taken[number - 1] : null;
        }

        private boolean isFull() {
            return activeCount >= MOST_ACTIVE;
        }

        private void keep(Order order, int status) {
            if (isFull()) {
                return;
            }
            order.status = status;
            active[activeCount] = order;
            activeCount++;
        }

        private void finish(Order order) {
            order.status = DONE;
            int kept = 0;
            for (int i = 0; i < activeCount; i++) {
                if (active[i] != order) {
                    active[kept] = active[i];
                    kept++;
                }
            }
            activeCount = kept;
        }

        private int lapse(int number) {
            Order order = find(number);
            if (order == null || order.status == DONE) {
                return 0;
            }
            finish(order);
            return order.left;
        }

        private void finishAllOf(int member) {
            for (int i = activeCount - 1; i >= 0; i--) {
                if (active[i].member == member) {
                    finish(active[i]);
                }
            }
        }

        /** The resting order of a side that is met first, or null. */
        private Order firstOf(int contract, boolean buy) {
            Order first = null;
            for (int i = 0; i < activeCount; i++) {
                Order order = active[i];
                if (order.isRestingOn(contract, buy) && (first == null || isBetter(order, first))) {
                    first = order;
                }
            }
            return first;
        }

        private static boolean isBetter(Order order, Order other) {
            return order.buy ? order.price > other.price : order.price < other.price;
        }

        private int restingBetween(int contract, boolean buy, int least, int most) {
            int sum = 0;
            for (int i = 0; i < activeCount; i++) {
                Order order = active[i];
                if (order.isRestingOn(contract, buy) && isIn(order.price, least, most)) {
                    sum += order.left;
                }
            }
            return sum;
        }

        private int allowedOfOthers(Order taker) {
            int sum = 0;
            for (int i = 0; i < activeCount; i++) {
                Order order = active[i];
                if (order.isRestingOn(taker.contract, !taker.buy) && order.member != taker.member
                        && taker.allows(order.price)) {
                    sum += order.left;
                }
            }
            return sum;
        }

        private int activeOf(int member, int contract, boolean buy) {
            int sum = 0;
            for (int i = 0; i < activeCount; i++) {
                Order order = active[i];
                if (order.member == member && order.contract == contract && order.buy == buy) {
                    sum += order.left;
                }
            }
            return sum;
        }
    }

    /** The latest trades, in rows that are used again. */
    private static final class Tape {
        private final int[] rows = new int[KEPT_TRADES * TRADE_FIELDS];
        private int count = 0;

        private void add(Order buy, Order sell, int price, int quantity) {
            int row = count % KEPT_TRADES * TRADE_FIELDS;
            rows[row] = buy.member;
            rows[row + 1] = sell.member;
            rows[row + 2] = buy.contract;
            rows[row + 3] = price;
            rows[row + 4] = quantity;
            count++;
        }

        private int read(int k, int w) {
            if (!isIn(k, 0, KEPT_TRADES - 1) || k >= count || !isIn(w, 0, TRADE_FIELDS - 1)) {
                return NONE;
            }
            return rows[(count - 1 - k) % KEPT_TRADES * TRADE_FIELDS + w];
        }
    }

    /** The books, the auctions and the stops of both contracts. */
    private static final class Market {
        private final Account[] accounts = new Account[MEMBERS + 1];
        private final Listing[] listings = new Listing[CONTRACTS];
        private final Book book = new Book();
        private final Tape tape = new Tape();

        private Market() {
            for (int i = 0; i < accounts.length; i++) {
                accounts[i] = new Account();
            }
            for (int i = 0; i < listings.length; i++) {
                listings[i] = new Listing();
            }
        }

        private int halt(int contract) {
            int was = listings[contract].isOpen ? 1 : 0;
            listings[contract].isOpen = false;
            return was;
        }

        /** Takes an order that nothing refuses, and answers its number. */
        private int place(Order order) {
            int number = book.register(order);
            if (order.kind == STOP) {
                book.keep(order, WAITING);
                return number;
            }
            if (listings[order.contract].isOpen) {
                match(order);
            }
            if (order.staysActive() && order.left > 0) {
                book.keep(order, RESTING);
            }
            return number;
        }

        private void match(Order order) {
            // Each round ends the order or one that rests, so there are never more rounds than these.
            for (int round = 0; round < MOST_ACTIVE && order.left > 0; round++) {
                Order other = book.firstOf(order.contract, !order.buy);
                if (other == null || !order.allows(other.price)) {
                    return;
                }
                if (other.member == order.member) {
                    book.finish(other);
                } else if (order.buy) {
                    exchange(order, other, other.price, Math.min(order.left, other.left));
                } else {
                    exchange(other, order, other.price, Math.min(order.left, other.left));
                }
            }
        }

        private void exchange(Order buy, Order sell, int price, int quantity) {
            accounts[buy.member].buy(buy.contract, quantity, price);
            accounts[sell.member].buy(buy.contract, -quantity, price);
            listings[buy.contract].last = price;
            tape.add(buy, sell, price, quantity);
            buy.left -= quantity;
            sell.left -= quantity;
            if (buy.left == 0) {
                book.finish(buy);
            }
            if (sell.left == 0) {
                book.finish(sell);
            }
        }

        private void fireStops() {
            for (int round = 0; round < MOST_ACTIVE; round++) {
                Order stop = firstReachedStop();
                if (stop == null) {
                    return;
                }
                book.finish(stop);
                stop.kind = MARKET;
                match(stop);
            }
        }

        private Order firstReachedStop() {
            for (int i = 0; i < book.activeCount; i++) {
                Order order = book.active[i];
                if (order.isReachedBy(listings[order.contract])) {
                    return order;
                }
            }
            return null;
        }

        private int holdAuction(int contract) {
            if (listings[contract].isOpen) {
                return WRONG_PHASE;
            }
            int price = auctionPrice(contract);
            int count = tradeAt(contract, price, Math.min(demand(contract, price), supply(contract, price)));
            listings[contract].isOpen = true;
            return count;
        }

        private int tradeAt(int contract, int price, int volume) {
            int open = volume;
            int count = 0;
            // Each trade ends an order that rests or the volume, so there are never more rounds than these.
            for (int round = 0; round < MOST_ACTIVE && open > 0; round++) {
                Order buy = book.firstOf(contract, true);
                Order sell = book.firstOf(contract, false);
                if (buy == null || sell == null) {
                    break;
                }
                int quantity = Math.min(open, Math.min(buy.left, sell.left));
                exchange(buy, sell, price, quantity);
                open -= quantity;
                count++;
            }
            return count;
        }

        /** The price of the auction; 0, which has no volume, when no order rests. */
        private int auctionPrice(int contract) {
            int chosen = 0;
            for (int i = 0; i < book.activeCount; i++) {
                Order order = book.active[i];
                boolean isCandidate = order.status == RESTING && order.contract == contract;
                if (isCandidate && (chosen == 0 || isBetterPrice(contract, order.price, chosen))) {
                    chosen = order.price;
                }
            }
            return chosen;
        }

        private boolean isBetterPrice(int contract, int price, int chosen) {
            int demand = demand(contract, price);
            int supply = supply(contract, price);
            int chosenDemand = demand(contract, chosen);
            int chosenSupply = supply(contract, chosen);
            int byVolume = Integer.compare(Math.min(chosenDemand, chosenSupply), Math.min(demand, supply));
            if (byVolume != 0) {
                return byVolume < 0;
            }
            int byDifference = Integer.compare(Math.abs(demand - supply), Math.abs(chosenDemand - chosenSupply));
            if (byDifference != 0) {
                return byDifference < 0;
            }
            int mark = listings[contract].mark;
            int byDistance = Integer.compare(Math.abs(price - mark), Math.abs(chosen - mark));
            return byDistance != 0 ? byDistance < 0 : price < chosen;
        }

        private int demand(int contract, int price) {
            return book.restingBetween(contract, true, price, MOST_PRICE);
        }

        private int supply(int contract, int price) {
            return book.restingBetween(contract, false, 1, price);
        }
    }

    /** Payments, what members must cover, settlements and defaults. */
    private static final class ClearingHouse {
        private final Market market = new Market();
        private final int rate;

        private ClearingHouse(int rate) {
            this.rate = rate;
        }

        private int payIn(int member, int amount) {
            Account account = market.accounts[member];
            if (account.inDefault) {
                return IN_DEFAULT;
            }
            account.cash += amount;
            return ACCEPTED;
        }

        private int payOut(int member, int amount) {
            Account account = market.accounts[member];
            if (account.inDefault) {
                return IN_DEFAULT;
            }
            if (account.cash < amount || spareOf(member, null) < amount) {
                return NOT_COVERED;
            }
            account.cash -= amount;
            return ACCEPTED;
        }

        private int payIntoFund(int member, int amount) {
            int reply = payOut(member, amount);
            if (reply == ACCEPTED) {
                market.accounts[member].share += amount;
            }
            return reply;
        }

        private int payIntoCapital(int amount) {
            market.accounts[HOUSE].cash += amount;
            return ACCEPTED;
        }

        private int enter(Order order) {
            int refusal = refusalOf(order);
            return refusal != ACCEPTED ? refusal : market.place(order);
        }

        private int refusalOf(Order order) {
            if (market.accounts[order.member].inDefault) {
                return IN_DEFAULT;
            }
            if (!market.listings[order.contract].isOpen && order.kind != LIMIT && order.kind != STOP) {
                return WRONG_PHASE;
            }
            if (order.staysActive() && market.book.isFull()) {
                return TOO_MANY;
            }
            if (spareOf(order.member, order) < 0) {
                return NOT_COVERED;
            }
            if (order.kind == PASSIVE) {
                Order other = market.book.firstOf(order.contract, !order.buy);
                return other != null && order.allows(other.price) ? NOT_PASSIVE : ACCEPTED;
            }
            boolean lacks = order.kind == WHOLE && market.book.allowedOfOthers(order) < order.left;
            return lacks ? NOT_WHOLE : ACCEPTED;
        }

        /** Equity less requirement, as they would be if the extra order (or none: null) rested too. */
        private long spareOf(int member, Order extra) {
            Account account = market.accounts[member];
            long spare = account.cash;
            for (int contract = 0; contract < CONTRACTS; contract++) {
                int mark = market.listings[contract].mark;
                long exposure = exposureOf(member, contract, extra);
                spare += account.gain(contract, mark) - (rate * mark * exposure + 9999) / 10000;
            }
            return spare;
        }

        private long exposureOf(int member, int contract, Order extra) {
            int position = market.accounts[member].positions[contract];
            int buys = market.book.activeOf(member, contract, true);
            int sells = market.book.activeOf(member, contract, false);
            if (extra != null && extra.contract == contract) {
                buys += extra.buy ? extra.left : 0;
                sells += extra.buy ? 0 : extra.left;
            }
            return Math.max(Math.abs(position + buys), Math.abs(position - sells));
        }

        private int settleAt(int mark0, int mark1) {
            market.listings[0].mark = mark0;
            market.listings[1].mark = mark1;
            for (int i = 0; i < market.accounts.length; i++) {
                market.accounts[i].realise(0, mark0);
                market.accounts[i].realise(1, mark1);
            }
            int failed = 0;
            for (int member = 0; member < MEMBERS; member++) {
                Account account = market.accounts[member];
                if (account.cash < 0 && !account.inDefault) {
                    closeOut(member);
                    failed++;
                }
            }
            return failed;
        }

        private void closeOut(int member) {
            Account account = market.accounts[member];
            market.book.finishAllOf(member);
            for (int contract = 0; contract < CONTRACTS; contract++) {
                if (market.listings[contract].isOpen) {
                    market.match(orderToClose(member, contract));
                    market.fireStops();
                }
                handToHouse(account, contract);
            }
            account.takeCostsFromCash();
            if (account.cash < 0) {
                long loss = -account.cash;
                account.cash = 0;
                coverLoss(account, loss);
            }
            account.inDefault = true;
        }

        private Order orderToClose(int member, int contract) {
            int position = market.accounts[member].positions[contract];
            return new Order(member, contract, position < 0, MARKET, MOST_PRICE, Math.abs(position));
        }

        private void handToHouse(Account account, int contract) {
            int rest = account.positions[contract];
            int mark = market.listings[contract].mark;
            account.buy(contract, -rest, mark);
            market.accounts[HOUSE].buy(contract, rest, mark);
        }

        private void coverLoss(Account account, long loss) {
            Account capital = market.accounts[HOUSE];
            long fromShare = Math.min(loss, account.share);
            account.share -= fromShare;
            long left = loss - fromShare;
            long fromCapital = Math.min(left, Math.max(capital.cash, 0));
            capital.cash -= fromCapital;
            left -= fromCapital;
            left -= takeFromShares(left);
            capital.cash -= left;
        }

        /**
         * Takes what the fund can pay of an amount, and answers how much that was. The member that is closed
         * out has no share left by then, so it need not be told from the others.
         */
        private long takeFromShares(long amount) {
            long sum = 0;
            for (int member = 0; member < MEMBERS; member++) {
                sum += payingShare(member);
            }
            long due = Math.min(amount, sum);
            if (due <= 0) {
                return 0;
            }
            long unpaid = due;
            long[] remainders = new long[MEMBERS];
            for (int member = 0; member < MEMBERS; member++) {
                long product = due * payingShare(member);
                remainders[member] = product % sum;
                market.accounts[member].share -= product / sum;
                unpaid -= product / sum;
            }
            takeOneMore(remainders, unpaid);
            return due;
        }

        private long payingShare(int member) {
            Account account = market.accounts[member];
            return account.inDefault ? 0 : account.share;
        }

        /**
         * The remainders add up to what is unpaid times the sum of the shares, and each is below that sum: so
         * more members have one than there are units to pay, and nobody without a remainder is asked.
         */
        private void takeOneMore(long[] remainders, long unpaid) {
            for (int paid = 0; paid < unpaid && paid < MEMBERS; paid++) {
                int next = 0;
                for (int member = 1; member < MEMBERS; member++) {
                    if (remainders[member] > remainders[next]) {
                        next = member;
                    }
                }
                remainders[next] = 0;
                market.accounts[next].share--;
            }
        }
    }
}
