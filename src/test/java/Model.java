import java.math.BigInteger;
import java.util.ArrayList;
import java.util.Comparator;
import java.util.List;
import java.util.Optional;
import java.util.TreeSet;
import java.util.function.Predicate;
import java.util.stream.Stream;

/** The document's terms, written down a second time and as plainly as the library allows. */
final class Model {
    private static final class Ord {
        int number, member, contract, kind, price, left, state = 2;
        boolean buy;

        boolean allows(int p) {
            return kind == 4 || (buy ? price >= p : price <= p);
        }
    }

    final int rate;
    final long[] cash = new long[5];
    final long[] share = new long[5];
    final int[][] position = new int[5][2];
    final long[][] cost = new long[5][2];
    final boolean[] defaulter = new boolean[5];
    final int[] mark = {100, 100};
    final int[] last = new int[2];
    final int[] phase = new int[2];
    final List<Ord> orders = new ArrayList<>();
    final List<int[]> trades = new ArrayList<>();
    /** How many stops the latest message let loose. */
    int loosed = 0;

    Model(int argument) {
        rate = 500 + 100 * (argument & 15);
    }

    /** Does a message, given as its kind (0 deposit, .. 8 settle) and its numbers, and answers its reply. */
    int act(int[] m) {
        loosed = 0;
        int reply = apply(m);
        stops();
        return reply;
    }

    private int apply(int[] m) {
        switch (m[0]) {
            case 0: return deposit(m[1], m[2]);
            case 1: return withdraw(m[1], m[2], false);
            case 2: return withdraw(m[1], m[2], true);
            case 3: cash[4] += m[1]; return 0;
            case 4: return order(m);
            case 5: return cancel(m[1]);
            case 6: return call(m[1]);
            case 7: return open(m[1]);
            default: return settle(m[1], m[2]);
        }
    }

    private int deposit(int member, int amount) {
        if (defaulter[member]) {
            return -2;
        }
        cash[member] += amount;
        return 0;
    }

    private int withdraw(int member, int amount, boolean toFund) {
        if (defaulter[member]) {
            return -2;
        }
        cash[member] -= amount;
        if (cash[member] < 0 || spare(member) < 0) {
            cash[member] += amount;
            return -5;
        }
        share[member] += toFund ? amount : 0;
        return 0;
    }

    long spare(int member) {
        long equity = cash[member];
        long requirement = 0;
        for (int c = 0; c < 2; c++) {
            int contract = c;
            equity += (long) position[member][c] * mark[c] - cost[member][c];
            int buys = sum(active().filter(o -> o.member == member && o.contract == contract && o.buy));
            int sells = sum(active().filter(o -> o.member == member && o.contract == contract && !o.buy));
            int exposure = Math.max(Math.abs(position[member][c] + buys), Math.abs(position[member][c] - sells));
            BigInteger product = BigInteger.valueOf(rate).multiply(BigInteger.valueOf(mark[c]))
                    .multiply(BigInteger.valueOf(exposure));
            BigInteger[] parts = product.divideAndRemainder(BigInteger.valueOf(10000));
            requirement += parts[0].longValue() + parts[1].signum();
        }
        return equity - requirement;
    }

    private Stream<Ord> active() {
        return orders.stream().filter(o -> o.state != 2);
    }

    private Stream<Ord> resting(int contract, boolean buy) {
        return orders.stream().filter(o -> o.state == 0 && o.contract == contract && o.buy == buy);
    }

    private static int sum(Stream<Ord> some) {
        return some.mapToInt(o -> o.left).sum();
    }

    private Optional<Ord> front(int contract, boolean buy) {
        Comparator<Ord> byPrice = Comparator.comparingInt(o -> buy ? -o.price : o.price);
        return resting(contract, buy).min(byPrice.thenComparingInt(o -> o.number));
    }

    private int order(int[] m) {
        Ord o = new Ord();
        o.member = m[1];
        o.contract = m[2];
        o.buy = m[3] == 1;
        o.kind = m[4];
        o.price = m[5];
        o.left = m[6];
        o.number = orders.size() + 1;
        if (defaulter[o.member]) {
            return -2;
        }
        if (phase[o.contract] == 0 && o.kind != 0 && o.kind != 5) {
            return -3;
        }
        if ((o.kind == 0 || o.kind == 3 || o.kind == 5) && active().count() >= 20) {
            return -4;
        }
        o.state = 0;
        orders.add(o);
        boolean covered = spare(o.member) >= 0;
        orders.remove(o);
        o.state = 2;
        if (!covered) {
            return -5;
        }
        if (o.kind == 3 && resting(o.contract, !o.buy).anyMatch(r -> o.allows(r.price))) {
            return -6;
        }
        if (o.kind == 2) {
            Predicate<Ord> counts = r -> r.member != o.member && o.allows(r.price);
            if (sum(resting(o.contract, !o.buy).filter(counts)) < o.left) {
                return -7;
            }
        }
        orders.add(o);
        if (o.kind == 5) {
            o.state = 1;
        } else {
            if (phase[o.contract] == 1) {
                match(o);
            }
            o.state = (o.kind == 0 || o.kind == 3) && o.left > 0 ? 0 : 2;
        }
        return o.number;
    }

    private void match(Ord o) {
        while (o.left > 0) {
            Optional<Ord> met = front(o.contract, !o.buy).filter(r -> o.allows(r.price));
            if (met.isEmpty()) {
                return;
            }
            Ord r = met.get();
            if (r.member == o.member) {
                r.state = 2;
            } else {
                trade(o.buy ? o : r, o.buy ? r : o, r.price, Math.min(o.left, r.left));
            }
        }
    }

    private void trade(Ord buy, Ord sell, int price, int quantity) {
        int c = buy.contract;
        position[buy.member][c] += quantity;
        position[sell.member][c] -= quantity;
        cost[buy.member][c] += (long) price * quantity;
        cost[sell.member][c] -= (long) price * quantity;
        last[c] = price;
        trades.add(new int[] {buy.member, sell.member, c, price, quantity});
        buy.left -= quantity;
        sell.left -= quantity;
        buy.state = buy.left == 0 ? 2 : buy.state;
        sell.state = sell.left == 0 ? 2 : sell.state;
    }

    private void stops() {
        while (true) {
            Optional<Ord> reached = orders.stream()
                    .filter(o -> o.state == 1 && phase[o.contract] == 1 && last[o.contract] != 0)
                    .filter(o -> o.buy ? last[o.contract] >= o.price : last[o.contract] <= o.price)
                    .min(Comparator.comparingInt(o -> o.number));
            if (reached.isEmpty()) {
                return;
            }
            loosed++;
            reached.get().kind = 4;
            reached.get().state = 2;
            match(reached.get());
        }
    }

    private int cancel(int number) {
        if (number > orders.size() || orders.get(number - 1).state == 2) {
            return 0;
        }
        orders.get(number - 1).state = 2;
        return orders.get(number - 1).left;
    }

    private int call(int contract) {
        int was = phase[contract];
        phase[contract] = 0;
        return was;
    }

    private int open(int contract) {
        if (phase[contract] == 1) {
            return -3;
        }
        TreeSet<Integer> prices = new TreeSet<>();
        resting(contract, true).forEach(o -> prices.add(o.price));
        resting(contract, false).forEach(o -> prices.add(o.price));
        int before = trades.size();
        Comparator<Integer> best = Comparator.comparingInt(p -> -volumeAt(contract, p));
        best = best.thenComparingInt(p -> Math.abs(demand(contract, p) - supply(contract, p)));
        best = best.thenComparingInt(p -> Math.abs(p - mark[contract]));
        Optional<Integer> price = prices.stream().min(best.thenComparingInt(p -> p));
        int volume = price.isPresent() ? volumeAt(contract, price.get()) : 0;
        while (volume > 0) {
            Ord buy = front(contract, true).get();
            Ord sell = front(contract, false).get();
            int quantity = Math.min(volume, Math.min(buy.left, sell.left));
            trade(buy, sell, price.get(), quantity);
            volume -= quantity;
        }
        phase[contract] = 1;
        return trades.size() - before;
    }

    private int demand(int contract, int price) {
        return sum(resting(contract, true).filter(o -> o.price >= price));
    }

    private int supply(int contract, int price) {
        return sum(resting(contract, false).filter(o -> o.price <= price));
    }

    private int volumeAt(int contract, int price) {
        return Math.min(demand(contract, price), supply(contract, price));
    }

    private int settle(int mark0, int mark1) {
        mark[0] = mark0;
        mark[1] = mark1;
        for (int m = 0; m < 5; m++) {
            for (int c = 0; c < 2; c++) {
                cash[m] += (long) position[m][c] * mark[c] - cost[m][c];
                cost[m][c] = (long) position[m][c] * mark[c];
            }
        }
        int failed = 0;
        for (int m = 0; m < 4; m++) {
            if (cash[m] < 0 && !defaulter[m]) {
                close(m);
                failed++;
            }
        }
        return failed;
    }

    private void close(int m) {
        orders.stream().filter(o -> o.member == m).forEach(o -> o.state = 2);
        for (int c = 0; c < 2; c++) {
            if (phase[c] == 1) {
                Ord o = new Ord();
                o.member = m;
                o.contract = c;
                o.kind = 4;
                o.buy = position[m][c] < 0;
                o.left = Math.abs(position[m][c]);
                match(o);
            }
            stops();
            long value = (long) position[m][c] * mark[c];
            position[4][c] += position[m][c];
            cost[4][c] += value;
            cost[m][c] -= value;
            position[m][c] = 0;
        }
        cash[m] -= cost[m][0] + cost[m][1];
        cost[m][0] = 0;
        cost[m][1] = 0;
        if (cash[m] < 0) {
            long loss = -cash[m];
            cash[m] = 0;
            cover(m, loss);
        }
        defaulter[m] = true;
    }

    private void cover(int m, long loss) {
        long own = Math.min(loss, share[m]);
        share[m] -= own;
        long left = loss - own;
        long capital = Math.max(0, Math.min(left, cash[4]));
        cash[4] -= capital;
        left -= capital;
        List<Integer> payers = new ArrayList<>();
        long together = 0;
        for (int i = 0; i < 4; i++) {
            if (!defaulter[i] && i != m) {
                payers.add(i);
                together += share[i];
            }
        }
        long t = Math.min(left, together);
        if (t > 0) {
            mutualise(payers, t, together);
        }
        cash[4] -= left - t;
    }

    private void mutualise(List<Integer> payers, long t, long together) {
        long[] remainder = new long[4];
        long paid = 0;
        for (int i : payers) {
            remainder[i] = t * share[i] % together;
            long part = t * share[i] / together;
            share[i] -= part;
            paid += part;
        }
        payers.sort(Comparator.<Integer>comparingLong(i -> -remainder[i]).thenComparingInt(i -> i));
        for (int i = 0; paid < t; i++) {
            share[payers.get(i)]--;
            paid++;
        }
    }

    int best(int contract, boolean buy) {
        return front(contract, buy).map(o -> o.price).orElse(0);
    }

    int volume(int contract, boolean buy, int price) {
        return sum(resting(contract, buy).filter(o -> o.price == price));
    }

    int state(int number, int w) {
        if (number < 1 || number > orders.size() || w < 0 || w > 1) {
            return -1;
        }
        return w == 0 ? orders.get(number - 1).left : orders.get(number - 1).state;
    }

    int trade(int k, int w) {
        if (k < 0 || k > 15 || k >= trades.size() || w < 0 || w > 4) {
            return -1;
        }
        return trades.get(trades.size() - 1 - k)[w];
    }
}
