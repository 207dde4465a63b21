import java.util.Random;

/** The 512 calls of an object's life, money that is never lost, and calls that never throw, even after it. */
public final class LimitsTest {
    private static final Check CHECK = new Check("LimitsTest");

    public static void main(String[] args) {
        allCallsAreOrders();
        allCallsAreDeposits();
        greatestPositions();
        moneyAndPositionsAddUp();
        nothingThrows();
        CHECK.end();
    }

    private static void allCallsAreOrders() {
        ClearedExchange x = new ClearedExchange(0);
        x.deposit(0, 100000);
        x.open(0);
        for (int i = 1; i <= 508; i++) {
            CHECK.due("order", x.order(0, 0, true, Setup.IMMEDIATE, 100, 50), i);
        }
        CHECK.due("the last order", x.state(508, 0), 50);
        CHECK.due("messages", x.messages(), 510);
    }

    private static void allCallsAreDeposits() {
        ClearedExchange x = new ClearedExchange(0);
        for (int i = 0; i < 510; i++) {
            CHECK.due("deposit", x.deposit(3, 100000), 0);
        }
        CHECK.due("cash", x.cash(3), 51000000);
        CHECK.due("reply", x.reply(510), 0);
    }

    private static void greatestPositions() {
        ClearedExchange x = new ClearedExchange(15);
        for (int i = 0; i < 100; i++) {
            x.deposit(i % 2, 100000);
        }
        x.open(0);
        x.settle(1000, 1);
        for (int i = 0; i < 200; i++) {
            x.order(0, 0, true, Setup.LIMIT, 1000, 50);
            x.order(1, 0, false, Setup.LIMIT, 1000, 50);
        }
        int position = x.position(0, 0);
        CHECK.due("what 5000000 cover at 200 for each", position, 200 * 50);
        CHECK.due("cost", x.cost(1, 0), -10000000);
        CHECK.due("spare", x.spare(0), 5000000 - 2000000);
        CHECK.due("settle", x.settle(1, 1), 1);
        CHECK.due("the house has it", x.position(4, 0), 10000);
        CHECK.due("and the loss", x.cash(4), -(9990000 - 5000000));
    }

    private static void moneyAndPositionsAddUp() {
        for (int seed = 0; seed < 200; seed++) {
            Random random = new Random(seed);
            ClearedExchange x = new ClearedExchange(seed);
            x.open(0);
            long paidIn = 0;
            for (int i = 0; i < 400; i++) {
                int member = random.nextInt(4);
                int amount = 1 + random.nextInt(800);
                int contract = random.nextInt(2);
                int price = 90 + random.nextInt(21);
                switch (random.nextInt(12)) {
                    case 0: paidIn += x.deposit(member, amount) == 0 ? amount : 0; break;
                    case 1: paidIn -= x.withdraw(member, amount) == 0 ? amount : 0; break;
                    case 2: x.contribute(member, amount); break;
                    case 3: paidIn += x.endow(amount % 50 + 1) == 0 ? amount % 50 + 1 : 0; break;
                    case 4: x.settle(price, 190 - price); break;
                    case 5: x.call(contract); break;
                    case 6: x.open(contract); break;
                    default: x.order(member, contract, random.nextBoolean(), random.nextInt(6), price, 1 + i % 50);
                }
            }
            addUp(x, paidIn);
        }
    }

    private static void addUp(ClearedExchange x, long paidIn) {
        long money = x.cash(4);
        for (int member = 0; member < 4; member++) {
            money += x.cash(member) + x.share(member);
            CHECK.due("no member is below 0", x.cash(member) >= 0 && x.share(member) >= 0, true);
        }
        CHECK.due("money", money, paidIn);
        for (int contract = 0; contract < 2; contract++) {
            long positions = 0;
            long costs = 0;
            for (int member = 0; member < 5; member++) {
                positions += x.position(member, contract);
                costs += x.cost(member, contract);
            }
            CHECK.due("positions", positions, 0);
            CHECK.due("costs", costs, 0);
        }
    }

    private static void nothingThrows() {
        int[] numbers = {
            Integer.MIN_VALUE, -1000, -2, -1, 0, 1, 2, 3, 4, 5, 6, 15, 16, 50, 51, 100, 200, 201, 512, 513, 1000, 1001,
            100000, 100001, Integer.MAX_VALUE,
        };
        Random random = new Random(1);
        for (int run = 0; run < 50; run++) {
            ClearedExchange x = new ClearedExchange(numbers[random.nextInt(numbers.length)]);
            String thrown = null;
            try {
                for (int i = 0; i < 3000; i++) {
                    any(x, random, numbers);
                }
            } catch (RuntimeException e) {
                thrown = e.toString();
            }
            CHECK.due("throws " + thrown, thrown == null, true);
        }
    }

    private static void any(ClearedExchange x, Random random, int[] numbers) {
        int a = numbers[random.nextInt(numbers.length)];
        int b = numbers[random.nextInt(numbers.length)];
        int c = numbers[random.nextInt(numbers.length)];
        boolean buy = random.nextBoolean();
        switch (random.nextInt(27)) {
            case 0: x.deposit(a & 3, b); break;
            case 1: x.withdraw(a, b); break;
            case 2: x.contribute(a, b); break;
            case 3: x.endow(a); break;
            case 4: x.order(a, b, buy, c, a, b); break;
            case 5: x.cancel(a); break;
            case 6: x.call(a); break;
            case 7: x.open(a & 1); break;
            case 8: x.settle(a, b); break;
            case 9: x.light(a); break;
            case 10: x.recover(); break;
            case 11: x.reply(a); break;
            case 12: x.cash(a); break;
            case 13: x.share(a); break;
            case 14: x.position(a, b); break;
            case 15: x.cost(a, b); break;
            case 16: x.spare(a); break;
            case 17: x.defaulter(a); break;
            case 18: x.best(a, buy); break;
            case 19: x.volume(a, buy, b); break;
            case 20: x.last(a); break;
            case 21: x.phase(a); break;
            case 22: x.state(a, b); break;
            case 23: x.trade(a, b); break;
            default: x.order(a & 3, b & 1, buy, random.nextInt(6), 1 + (c & 511), 1 + random.nextInt(50));
        }
    }
}
