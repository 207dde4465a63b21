import java.util.stream.LongStream;

/**
 * What the questions tell of an object, in a fixed order; the journal is left out, as a refused message stands in it
 * too. A snapshot takes 123 of the 512 calls that an object may be used for.
 */
final class Snapshot {
    private static final int ORDERS = 25;
    private static final int TRADES = 4;

    private Snapshot() {
    }

    static long[] of(ClearedExchange x) {
        LongStream.Builder row = LongStream.builder();
        row.add(x.trades());
        for (int member = 0; member < 5; member++) {
            row.add(x.cash(member)).add(x.share(member)).add(x.spare(member)).add(x.defaulter(member) ? 1 : 0);
            for (int contract = 0; contract < 2; contract++) {
                row.add(x.position(member, contract)).add(x.cost(member, contract));
            }
        }
        for (int contract = 0; contract < 2; contract++) {
            row.add(x.phase(contract)).add(x.last(contract));
            for (int side = 0; side < 2; side++) {
                int best = x.best(contract, side == 1);
                row.add(best).add(x.volume(contract, side == 1, best));
            }
        }
        for (int order = 1; order <= ORDERS; order++) {
            row.add(x.state(order, 0)).add(x.state(order, 1));
        }
        for (int k = 0; k < TRADES; k++) {
            for (int w = 0; w < 5; w++) {
                row.add(x.trade(k, w));
            }
        }
        return row.build().toArray();
    }
}
