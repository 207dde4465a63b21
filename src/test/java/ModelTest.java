import java.util.Arrays;
import java.util.Random;

/** All promises: many runs of 512 calls, the same on the class and on the model, with the same answers due. */
public final class ModelTest {
    private static final Check CHECK = new Check("ModelTest");
    private static final int RUNS = 1500;
    private static final int CALLS = 512;
    private static final int LIGHT = 24;
    private static final int DOWN = 25;
    private static final int RECOVER = 26;

    private final Random random;
    private final ClearedExchange exchange;
    private final JournalModel model;
    private final int spread;
    private final int cash;
    private final int fuses;
    /** Some runs begin with an ordinary day's calls; the others begin anywhere. */
    private final boolean isOrdinary;
    /** In some runs marks leap so far that several members can't pay at once. */
    private final boolean isWild;

    /** How often each answer to an order was given, by number less 9 (taken ones at 9), and other rare things. */
    private static final int[] ORDER_ANSWERS = new int[11];
    private static final int[] DEFAULTS = new int[5];
    private static int chains = 0;
    private static int auctionTrades = 0;
    private static int falls = 0;

    private ModelTest(int seed) {
        random = new Random(seed);
        int argument = random.nextInt();
        exchange = new ClearedExchange(argument);
        model = new JournalModel(argument);
        spread = 1 + random.nextInt(20);
        cash = 100 + random.nextInt(seed % 3 == 0 ? 20000 : 2000);
        fuses = seed % 4 == 0 ? 20 : seed % 4 == 1 ? 4 : 0;
        isOrdinary = seed % 5 != 4;
        isWild = seed % 7 == 3;
    }

    public static void main(String[] args) {
        for (int seed = 0; seed < RUNS; seed++) {
            new ModelTest(seed).run(seed);
        }
        for (int answer : new int[] {-9, -7, -6, -5, -4, -3, -2, -1, 1}) {
            CHECK.due("orders answered " + answer + " are seen", ORDER_ANSWERS[answer + 9] > 0, true);
        }
        CHECK.due("settlements with a default are seen", DEFAULTS[1] > 100, true);
        CHECK.due("settlements with two are seen", DEFAULTS[2] > 100, true);
        CHECK.due("settlements with three are seen", DEFAULTS[3] > 10, true);
        CHECK.due("cash adds up to 0 or more before the first default, so four at once are never seen", DEFAULTS[4], 0);
        CHECK.due("messages that let several stops loose are seen", chains > 100, true);
        CHECK.due("auctions with trades are seen", auctionTrades > 100, true);
        CHECK.due("the machine was seen to go down", falls > 100, true);
        CHECK.end();
    }

    private void run(int seed) {
        for (int call = 0; call < CALLS; call++) {
            int[] c = nextCall(call);
            long want = ofModel(c);
            long got = ofExchange(c);
            CHECK.due("run " + seed + " call " + call + " " + Arrays.toString(c), got, want);
            count(c, want);
            chains += c[0] < 9 && model.loosed > 1 ? 1 : 0;
            if (got != want) {
                return;
            }
        }
    }

    private static void count(int[] c, long answer) {
        if (c[0] == 4) {
            ORDER_ANSWERS[(int) Math.min(answer, 1) + 9]++;
        }
        if (c[0] == 8 && answer >= 0) {
            DEFAULTS[(int) answer]++;
        }
        auctionTrades += c[0] == 7 && answer > 0 ? 1 : 0;
        falls += c[0] == RECOVER && answer >= 0 ? 1 : 0;
    }

    private int[] nextCall(int call) {
        if (isOrdinary && call < 6) {
            return call < 4 ? new int[] {0, call, cash} : new int[] {7, call - 4};
        }
        if (model.down() && random.nextInt(3) == 0) {
            return new int[] {RECOVER};
        }
        int pick = random.nextInt(1000);
        if (pick < fuses) {
            return new int[] {LIGHT, random.nextInt(12) == 0 ? random.nextInt(260) - 30 : random.nextInt(6)};
        }
        if (pick < 30) {
            return new int[] {pick % 2 == 0 ? DOWN : RECOVER};
        }
        if (pick < 330) {
            return question();
        }
        return pick < 700 ? order() : otherMessage();
    }

    private int member() {
        return random.nextInt(60) == 0 ? random.nextInt(8) - 2 : random.nextInt(4);
    }

    private int contract() {
        return random.nextInt(60) == 0 ? random.nextInt(6) - 2 : random.nextInt(8) / 5;
    }

    private int price() {
        int far = random.nextInt(40);
        if (far == 0) {
            return random.nextInt(1010) - 4;
        }
        return 100 - spread + random.nextInt(2 * spread + 1);
    }

    private int quantity() {
        return random.nextInt(50) == 0 ? random.nextInt(60) - 4 : 1 + random.nextInt(random.nextBoolean() ? 50 : 8);
    }

    private int[] order() {
        int kind = random.nextInt(80) == 0 ? random.nextInt(10) - 2 : Math.max(0, random.nextInt(9) - 3);
        return new int[] {4, member(), contract(), random.nextInt(2), kind, price(), quantity()};
    }

    private int amount() {
        return random.nextInt(30) == 0 ? random.nextInt(100100) - 50 : 1 + random.nextInt(cash);
    }

    private int[] otherMessage() {
        int pick = random.nextInt(100);
        if (pick < 40) {
            int kind = pick < 12 ? 0 : pick < 26 ? 1 : 2;
            return new int[] {kind, member(), kind == 0 ? amount() : 1 + amount() / 3};
        }
        if (pick < 45) {
            return new int[] {3, amount() / 4};
        }
        if (pick < 70) {
            return new int[] {5, random.nextInt(40) == 0 ? random.nextInt(1010) - 4 : random.nextInt(200)};
        }
        if (pick < 90) {
            return new int[] {pick < 76 ? 6 : 7, contract()};
        }
        return new int[] {8, mark(), mark()};
    }

    private int mark() {
        return isWild ? 40 + random.nextInt(121) : price();
    }

    private int[] question() {
        int q = 9 + random.nextInt(15);
        switch (q) {
            case 9:
            case 23: return new int[] {q};
            case 10: return new int[] {q, random.nextInt(300) - 1};
            case 11:
            case 12:
            case 15:
            case 16: return new int[] {q, random.nextInt(7) - 1};
            case 13:
            case 14: return new int[] {q, random.nextInt(7) - 1, random.nextInt(4) - 1};
            case 17: return new int[] {q, contract(), random.nextInt(2)};
            case 18: return new int[] {q, contract(), random.nextInt(2), price()};
            case 19:
            case 20: return new int[] {q, contract()};
            case 21: return new int[] {q, random.nextInt(200) - 1, random.nextInt(4) - 1};
            default: return new int[] {q, random.nextInt(19) - 1, random.nextInt(7) - 1};
        }
    }

    private long ofModel(int[] c) {
        switch (c[0]) {
            case LIGHT: return model.light(c[1]) ? 1 : 0;
            case DOWN: return model.down() ? 1 : 0;
            case RECOVER: return model.recover();
            default: return c[0] < 9 ? model.send(c) : model.ask(c);
        }
    }

    private long ofExchange(int[] c) {
        ClearedExchange x = exchange;
        switch (c[0]) {
            case 0: return x.deposit(c[1], c[2]);
            case 1: return x.withdraw(c[1], c[2]);
            case 2: return x.contribute(c[1], c[2]);
            case 3: return x.endow(c[1]);
            case 4: return x.order(c[1], c[2], c[3] == 1, c[4], c[5], c[6]);
            case 5: return x.cancel(c[1]);
            case 6: return x.call(c[1]);
            case 7: return x.open(c[1]);
            case 8: return x.settle(c[1], c[2]);
            case 9: return x.messages();
            case 10: return x.reply(c[1]);
            case 11: return x.cash(c[1]);
            case 12: return x.share(c[1]);
            case 13: return x.position(c[1], c[2]);
            case 14: return x.cost(c[1], c[2]);
            case 15: return x.spare(c[1]);
            case 16: return x.defaulter(c[1]) ? 1 : 0;
            case 17: return x.best(c[1], c[2] == 1);
            case 18: return x.volume(c[1], c[2] == 1, c[3]);
            case 19: return x.last(c[1]);
            case 20: return x.phase(c[1]);
            case 21: return x.state(c[1], c[2]);
            case 22: return x.trade(c[1], c[2]);
            case LIGHT: return x.light(c[1]) ? 1 : 0;
            case DOWN: return x.down() ? 1 : 0;
            case RECOVER: return x.recover();
            default: return x.trades();
        }
    }
}
