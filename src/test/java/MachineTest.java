/** Promises 11 to 15: the fuse, going down, recovering, the journal and its replies. */
public final class MachineTest {
    private static final Check CHECK = new Check("MachineTest");

    public static void main(String[] args) {
        ranges();
        writingTakesTheFirstUnit();
        answeringTakesTheSecond();
        wrongCallsAndQuestionsTakeNone();
        relighting();
        everyMessageMayGoDown();
        everyCallAnswersDown();
        recoversTheWholeState();
        repliesOfAllMessages();
        CHECK.end();
    }

    private static void ranges() {
        ClearedExchange x = new ClearedExchange(0);
        CHECK.due("light 0", x.light(0), true);
        CHECK.due("light 200", x.light(200), true);
        CHECK.due("light 201", x.light(201), false);
        CHECK.due("light -1", x.light(-1), false);
        CHECK.due("lighting is no message", x.messages(), 0);
        // A refused lighting leaves the fuse of 200: 100 messages.
        for (int i = 0; i < 100; i++) {
            CHECK.due("deposit", x.deposit(0, 1), 0);
        }
        CHECK.due("the fuse ends", x.deposit(0, 1), -9);
        CHECK.due("down", x.down(), true);
        CHECK.due("recover", x.recover(), 100);
        CHECK.due("cash", x.cash(0), 100);
    }

    private static void writingTakesTheFirstUnit() {
        ClearedExchange x = new ClearedExchange(0);
        x.deposit(0, 5);
        x.light(0);
        CHECK.due("not down before a message", x.down(), false);
        CHECK.due("cash can be asked", x.cash(0), 5);
        CHECK.due("not written", x.deposit(0, 7), -9);
        CHECK.due("down", x.down(), true);
        CHECK.due("recover", x.recover(), 1);
        CHECK.due("not done", x.cash(0), 5);
        CHECK.due("no reply", x.reply(2), -1);
        CHECK.due("the fuse is out", x.deposit(0, 7), 0);
        CHECK.due("and stays out", x.deposit(0, 7), 0);
        CHECK.due("cash", x.cash(0), 19);
        CHECK.due("recover when not down", x.recover(), -1);
    }

    private static void answeringTakesTheSecond() {
        ClearedExchange x = new ClearedExchange(0);
        x.deposit(0, 5);
        x.light(1);
        CHECK.due("not answered", x.withdraw(0, 6), -9);
        CHECK.due("recover", x.recover(), 2);
        CHECK.due("the reply it would have had", x.reply(2), -5);
        x.light(2);
        CHECK.due("answered", x.withdraw(0, 5), 0);
        CHECK.due("not down yet", x.down(), false);
        CHECK.due("done", x.cash(0), 0);
        CHECK.due("the next one is not written", x.deposit(0, 1), -9);
        CHECK.due("recover", x.recover(), 3);
        x.light(3);
        CHECK.due("answered", x.deposit(0, 10), 0);
        CHECK.due("written alone", x.deposit(0, 10), -9);
        CHECK.due("recover", x.recover(), 5);
        CHECK.due("both are done", x.cash(0), 20);
    }

    private static void wrongCallsAndQuestionsTakeNone() {
        ClearedExchange x = new ClearedExchange(0);
        x.light(2);
        CHECK.due("wrong deposit", x.deposit(4, 1), -1);
        CHECK.due("wrong cancel", x.cancel(0), -1);
        CHECK.due("wrong settle", x.settle(0, 1), -1);
        CHECK.due("cash", x.cash(0), 0);
        CHECK.due("recover", x.recover(), -1);
        CHECK.due("the units are still there", x.deposit(0, 1), 0);
        CHECK.due("with none left a wrong call is still a wrong one", x.deposit(4, 1), -1);
        CHECK.due("not down", x.down(), false);
        CHECK.due("now down", x.deposit(0, 1), -9);
    }

    private static void relighting() {
        ClearedExchange x = new ClearedExchange(0);
        x.light(0);
        CHECK.due("in place of one that is lit", x.light(4), true);
        CHECK.due("deposit", x.deposit(0, 1), 0);
        CHECK.due("shorter again", x.light(1), true);
        CHECK.due("deposit", x.deposit(0, 1), -9);
        CHECK.due("not while down", x.light(5), false);
        CHECK.due("still down", x.down(), true);
        CHECK.due("recover", x.recover(), 2);
        CHECK.due("the refused one is not lit", x.endow(1) + x.endow(1) + x.endow(1), 0);
    }

    /** Each kind of message, cut off before the writing and before the answering. */
    private static void everyMessageMayGoDown() {
        for (int message = 0; message < 9; message++) {
            for (int units = 0; units < 2; units++) {
                ClearedExchange cut = prepared();
                ClearedExchange whole = prepared();
                cut.light(units);
                CHECK.due("message " + message + " with " + units, send(cut, message), -9);
                int due = units == 0 ? -1 : send(whole, message);
                CHECK.due("recover", cut.recover(), whole.messages());
                CHECK.due("reply", cut.reply(prepared().messages() + 1), due);
                same(cut, whole);
            }
        }
    }

    private static ClearedExchange prepared() {
        ClearedExchange x = Setup.withPositions(1000);
        x.order(1, 0, true, Setup.LIMIT, 90, 5);
        x.order(2, 0, false, Setup.STOP, 95, 2);
        x.order(1, 1, true, Setup.LIMIT, 90, 5);
        x.call(1);
        x.order(2, 1, false, Setup.LIMIT, 90, 3);
        return x;
    }

    private static int send(ClearedExchange x, int message) {
        switch (message) {
            case 0: return x.deposit(0, 10);
            case 1: return x.withdraw(1, 10);
            case 2: return x.contribute(1, 10);
            case 3: return x.endow(10);
            case 4: return x.order(3, 0, false, Setup.LIMIT, 90, 1);
            case 5: return x.cancel(3);
            case 6: return x.call(0);
            case 7: return x.open(1);
            default: return x.settle(70, 100);
        }
    }

    private static void same(ClearedExchange x, ClearedExchange y) {
        CHECK.due("messages", x.messages(), y.messages());
        CHECK.same("after a stop and without one", Snapshot.of(x), Snapshot.of(y));
        for (int k = 0; k < 30; k++) {
            CHECK.due("reply", x.reply(k), y.reply(k));
        }
    }

    private static void everyCallAnswersDown() {
        ClearedExchange x = Setup.withPositions(1000);
        x.settle(70, 100);
        x.light(0);
        x.endow(1);
        CHECK.due("down", x.down(), true);
        for (int message = 0; message < 9; message++) {
            CHECK.due("message " + message, send(x, message), -9);
        }
        CHECK.due("messages", x.messages(), -9);
        CHECK.due("reply", x.reply(1), -9);
        CHECK.due("cash", x.cash(0), -9);
        CHECK.due("share", x.share(0), -9);
        CHECK.due("position", x.position(0, 0), -9);
        CHECK.due("cost", x.cost(0, 0), -9);
        CHECK.due("spare", x.spare(0), -9);
        CHECK.due("defaulter", x.defaulter(0), false);
        CHECK.due("best", x.best(0, true), -9);
        CHECK.due("volume", x.volume(0, true, 1), -9);
        CHECK.due("last", x.last(0), -9);
        CHECK.due("phase", x.phase(0), -9);
        CHECK.due("state", x.state(1, 0), -9);
        CHECK.due("trades", x.trades(), -9);
        CHECK.due("trade", x.trade(0, 0), -9);
        wrongNumbersAnswerDownToo(x);
        CHECK.due("light", x.light(1), false);
        CHECK.due("recover", x.recover(), 9);
        CHECK.due("defaulter", x.defaulter(0), true);
    }

    private static void wrongNumbersAnswerDownToo(ClearedExchange x) {
        CHECK.due("wrong deposit", x.deposit(9, 0), -9);
        CHECK.due("wrong withdraw", x.withdraw(9, 0), -9);
        CHECK.due("wrong contribute", x.contribute(9, 0), -9);
        CHECK.due("wrong endow", x.endow(0), -9);
        CHECK.due("wrong order", x.order(9, 0, true, 0, 0, 0), -9);
        CHECK.due("wrong cancel", x.cancel(0), -9);
        CHECK.due("wrong call", x.call(9), -9);
        CHECK.due("wrong open", x.open(9), -9);
        CHECK.due("wrong settle", x.settle(0, 0), -9);
        CHECK.due("wrong reply", x.reply(0), -9);
        CHECK.due("wrong cash", x.cash(9), -9);
        CHECK.due("wrong share", x.share(9), -9);
        CHECK.due("wrong position", x.position(9, 9), -9);
        CHECK.due("wrong cost", x.cost(9, 9), -9);
        CHECK.due("wrong spare", x.spare(9), -9);
        CHECK.due("wrong best", x.best(9, true), -9);
        CHECK.due("wrong volume", x.volume(9, true, 1), -9);
        CHECK.due("wrong last", x.last(9), -9);
        CHECK.due("wrong phase", x.phase(9), -9);
        CHECK.due("wrong state", x.state(0, 9), -9);
        CHECK.due("wrong trade", x.trade(99, 9), -9);
    }

    /** Going down and recovering at each message leaves what a run without it leaves, however long the run is. */
    private static void recoversTheWholeState() {
        for (int count = 1; count <= 9; count++) {
            ClearedExchange cut = prepared();
            ClearedExchange whole = prepared();
            for (int message = 0; message < count; message++) {
                cut.light(0);
                send(cut, message);
                cut.recover();
                cut.light(1);
                send(cut, message);
                cut.recover();
                send(whole, message);
            }
            same(cut, whole);
        }
    }

    private static void repliesOfAllMessages() {
        ClearedExchange x = new ClearedExchange(0);
        int[] answers = {
            x.deposit(0, 100), x.withdraw(0, 101), x.order(0, 0, true, Setup.LIMIT, 50, 5), x.order(0, 0, true, 4, 1, 1),
            x.cancel(1), x.call(0), x.open(0), x.open(0), x.call(0), x.settle(5, 5),
        };
        int[] due = {0, -5, 1, -3, 5, 0, 0, -3, 1, 0};
        for (int i = 0; i < due.length; i++) {
            CHECK.due("answer " + (i + 1), answers[i], due[i]);
            CHECK.due("reply " + (i + 1), x.reply(i + 1), due[i]);
        }
        CHECK.due("messages", x.messages(), 10);
        CHECK.due("reply 0", x.reply(0), -1);
        CHECK.due("reply -1", x.reply(-1), -1);
        CHECK.due("reply 11", x.reply(11), -1);
        CHECK.due("reply far above", x.reply(Integer.MAX_VALUE), -1);
        CHECK.due("messages after questions", x.messages(), 10);
    }
}
