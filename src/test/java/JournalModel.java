import java.util.ArrayList;
import java.util.List;

/** A machine with a journal round the model: recovering plays all messages of the journal on a new model. */
final class JournalModel {
    private static final int[][] LEAST = {
        {0, 1}, {0, 1}, {0, 1}, {1}, {0, 0, 0, 0, 1, 1}, {1}, {0}, {0}, {1, 1},
    };
    private static final int[][] MOST = {
        {3, 100000}, {3, 100000}, {3, 100000}, {100000}, {3, 1, 1, 5, 1000, 50}, {1000}, {1}, {1}, {1000, 1000},
    };

    private final int argument;
    private final List<int[]> journal = new ArrayList<>();
    private final List<Integer> replies = new ArrayList<>();
    private Model model;
    private Integer fuse = null;
    private boolean down = false;
    /** How many stops the latest message let loose. */
    int loosed = 0;

    JournalModel(int argument) {
        this.argument = argument;
        this.model = new Model(argument);
    }

    int send(int[] m) {
        loosed = 0;
        if (down) {
            return -9;
        }
        for (int i = 1; i < m.length; i++) {
            if (m[i] < LEAST[m[0]][i - 1] || m[i] > MOST[m[0]][i - 1]) {
                return -1;
            }
        }
        if (!burn()) {
            return -9;
        }
        journal.add(m.clone());
        int reply = model.act(m);
        replies.add(reply);
        loosed = model.loosed;
        return burn() ? reply : -9;
    }

    private boolean burn() {
        if (fuse == null) {
            return true;
        }
        if (fuse == 0) {
            down = true;
            // What the memory held is gone with the machine.
            model = null;
            return false;
        }
        fuse--;
        return true;
    }

    boolean light(int n) {
        if (down || n < 0 || n > 200) {
            return false;
        }
        fuse = n;
        return true;
    }

    boolean down() {
        return down;
    }

    int recover() {
        if (!down) {
            return -1;
        }
        down = false;
        fuse = null;
        model = new Model(argument);
        replies.clear();
        for (int[] m : journal) {
            replies.add(model.act(m));
        }
        return journal.size();
    }

    /** Answers a question, given as its number (9 messages, .. 22 trade) and its numbers. */
    long ask(int[] q) {
        if (down) {
            return q[0] == 16 ? 0 : -9;
        }
        boolean member = q.length > 1 && q[1] >= 0 && q[1] <= 3;
        boolean account = q.length > 1 && q[1] >= 0 && q[1] <= 4;
        boolean first = q.length > 1 && q[1] >= 0 && q[1] <= 1;
        boolean second = q.length > 2 && q[2] >= 0 && q[2] <= 1;
        switch (q[0]) {
            case 9: return journal.size();
            case 10: return q[1] < 1 || q[1] > replies.size() ? -1 : replies.get(q[1] - 1);
            case 11: return account ? model.cash[q[1]] : -1;
            case 12: return member ? model.share[q[1]] : -1;
            case 13: return account && second ? model.position[q[1]][q[2]] : -1;
            case 14: return account && second ? model.cost[q[1]][q[2]] : -1;
            case 15: return member ? model.spare(q[1]) : -1;
            case 16: return member && model.defaulter[q[1]] ? 1 : 0;
            case 17: return first ? model.best(q[1], q[2] == 1) : -1;
            case 18: return first ? model.volume(q[1], q[2] == 1, q[3]) : -1;
            case 19: return first ? model.last[q[1]] : -1;
            case 20: return first ? model.phase[q[1]] : -1;
            case 21: return model.state(q[1], q[2]);
            case 22: return model.trade(q[1], q[2]);
            default: return model.trades.size();
        }
    }
}
