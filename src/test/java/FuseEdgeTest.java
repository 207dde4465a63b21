/** The fuse: lit with each number of units, what takes one, what puts it out, and what is there after a stop. */
public final class FuseEdgeTest {
    private static final Check CHECK = new Check("FuseEdgeTest");
    private static final int[] WRONG_UNITS = {
        -1, -2, -200, -256, Integer.MIN_VALUE, 201, 202, 256, 65536, Integer.MAX_VALUE,
    };

    public static void main(String[] args) {
        unitsInTheirRange();
        unitsOutOfTheirRange();
        everyNumberOfUnits();
        noUnitsLeftIsNotYetDown();
        inPlaceOfOneThatIsLit();
        inPlaceOfOneThatHasBurned();
        refusedMessagesTakeUnits();
        otherCallsTakeNone();
        notWrittenIsNotDone();
        notAnsweredIsDone();
        lightingWhileDown();
        recoveringWhenNotDown();
        recoveringPutsTheFuseOut();
        stoppedAgainAndAgain();
        booleanCallsWhileDown();
        numbersOutOfRangeWhileDown();
        repliesOverAStop();
        settlementOverAStop();
        CHECK.end();
    }

    /** Promise 11: "n is not 0 .. 200". */
    private static void unitsInTheirRange() {
        for (int units : new int[] {0, 1, 199, 200}) {
            ClearedExchange x = new ClearedExchange(0);
            CHECK.due("light " + units, x.light(units), true);
            CHECK.due("not down by it", x.down(), false);
            CHECK.due("no message", x.messages(), 0);
        }
    }

    private static void unitsOutOfTheirRange() {
        for (int units : WRONG_UNITS) {
            ClearedExchange x = new ClearedExchange(0);
            CHECK.due("light " + units, x.light(units), false);
            for (int i = 0; i < 202; i++) {
                CHECK.due("no fuse is lit by " + units, x.endow(1), 0);
            }
            ClearedExchange y = new ClearedExchange(0);
            y.light(2);
            CHECK.due("light " + units + " beside 2", y.light(units), false);
            CHECK.due("the one that is lit", y.endow(1), 0);
            CHECK.due("is still lit", y.endow(1), -9);
        }
    }

    /** "Each writing and each answering takes one; where there is none left, the machine is DOWN at once". */
    private static void everyNumberOfUnits() {
        for (int units = 0; units <= 200; units++) {
            ClearedExchange x = new ClearedExchange(0);
            x.light(units);
            for (int i = 0; i < units / 2; i++) {
                CHECK.due("message " + i + " of " + units + " units", x.deposit(0, 1), 0);
            }
            CHECK.due("not down before the next", x.down(), false);
            CHECK.due("the one that has not two units of " + units, x.deposit(0, 1), -9);
            CHECK.due("down by it", x.down(), true);
            CHECK.due("recover", x.recover(), (units + 1) / 2);
            CHECK.due("cash", x.cash(0), (units + 1) / 2);
            CHECK.due("reply", x.reply(units / 2 + 1), units % 2 == 1 ? 0 : -1);
        }
    }

    private static void noUnitsLeftIsNotYetDown() {
        ClearedExchange x = new ClearedExchange(0);
        x.light(0);
        CHECK.due("with 0 units", x.down(), false);
        CHECK.due("questions are answered", x.cash(0), 0);
        CHECK.due("messages", x.messages(), 0);
        CHECK.due("it may be lit again", x.light(2), true);
        CHECK.due("a message with 2 units", x.call(0), 0);
        CHECK.due("with 0 units left", x.down(), false);
        CHECK.due("questions are answered", x.phase(0), 0);
        CHECK.due("a wrong call is answered", x.call(2), -1);
        CHECK.due("recover", x.recover(), -1);
        CHECK.due("the next message", x.call(0), -9);
        CHECK.due("down", x.down(), true);
    }

    /** Promise 11: "in place of one that is lit". */
    private static void inPlaceOfOneThatIsLit() {
        int[][] pairs = {{0, 2}, {1, 2}, {2, 2}, {200, 2}, {200, 0}, {200, 1}, {0, 200}, {1, 3}, {3, 1}, {5, 0}};
        for (int[] pair : pairs) {
            ClearedExchange x = new ClearedExchange(0);
            x.light(pair[0]);
            CHECK.due("light " + pair[1] + " in place of " + pair[0], x.light(pair[1]), true);
            for (int i = 0; i < pair[1] / 2; i++) {
                CHECK.due("message " + i, x.endow(1), 0);
            }
            CHECK.due("the next", x.endow(1), -9);
            CHECK.due("recover", x.recover(), (pair[1] + 1) / 2);
        }
    }

    private static void inPlaceOfOneThatHasBurned() {
        ClearedExchange x = new ClearedExchange(0);
        x.light(4);
        x.endow(1);
        x.light(4);
        CHECK.due("the units are not added up", x.endow(1) + x.endow(1), 0);
        CHECK.due("after 4", x.endow(1), -9);
        ClearedExchange y = new ClearedExchange(0);
        for (int i = 0; i < 150; i++) {
            y.light(2);
            CHECK.due("lit again before each", y.endow(1), 0);
        }
        CHECK.due("the last one is burned", y.endow(1), -9);
    }

    /** A message that is refused, or that changes nothing, is written and answered as any other. */
    private static void refusedMessagesTakeUnits() {
        ClearedExchange x = Setup.withDefaulter();
        x.light(16);
        CHECK.due("-2", x.deposit(0, 1), -2);
        CHECK.due("-2", x.order(0, 0, true, Setup.LIMIT, 1, 1), -2);
        CHECK.due("-3", x.open(0), -3);
        CHECK.due("-5", x.withdraw(1, 1001), -5);
        CHECK.due("-7", x.order(1, 0, true, Setup.WHOLE, 1, 1), -7);
        CHECK.due("cancel of none", x.cancel(1000), 0);
        CHECK.due("call", x.call(1), 1);
        CHECK.due("call again", x.call(1), 0);
        CHECK.due("the ninth", x.call(1), -9);
        CHECK.due("recover", x.recover(), 9 + 8);
    }

    private static void otherCallsTakeNone() {
        ClearedExchange x = Setup.busy();
        x.light(2);
        Snapshot.of(x);
        CHECK.due("messages", x.messages(), 18);
        CHECK.due("reply", x.reply(1), 0);
        CHECK.due("down", x.down(), false);
        CHECK.due("recover", x.recover(), -1);
        CHECK.due("a wrong lighting", x.light(201), false);
        CHECK.due("a wrong deposit", x.deposit(4, 1), -1);
        CHECK.due("a wrong withdrawal", x.withdraw(4, 1), -1);
        CHECK.due("a wrong contribution", x.contribute(4, 1), -1);
        CHECK.due("a wrong endowment", x.endow(0), -1);
        CHECK.due("a wrong order", x.order(0, 0, true, 6, 1, 1), -1);
        CHECK.due("a wrong cancel", x.cancel(1001), -1);
        CHECK.due("a wrong call", x.call(2), -1);
        CHECK.due("a wrong open", x.open(2), -1);
        CHECK.due("a wrong settlement", x.settle(0, 1), -1);
        CHECK.due("both units are there", x.endow(1), 0);
        CHECK.due("and no third", x.endow(1), -9);
    }

    private static int send(ClearedExchange x, int message) {
        switch (message) {
            case 0: return x.deposit(0, 10);
            case 1: return x.withdraw(1, 10);
            case 2: return x.contribute(1, 10);
            case 3: return x.endow(10);
            case 4: return x.order(3, 0, false, Setup.LIMIT, 90, 1);
            case 5: return x.cancel(3);
            case 6: return x.call(0);
            case 7: return x.open(1);
            case 8: return x.settle(60, 140);
            case 9: return x.withdraw(1, 100000);
            case 10: return x.order(2, 0, false, Setup.STOP, 100, 1);
            default: return x.order(1, 0, true, Setup.MARKET, 1, 50);
        }
    }

    /** Contract 1 is in CALL with an auction to come. */
    private static ClearedExchange before() {
        ClearedExchange x = Setup.busy();
        x.call(1);
        x.order(0, 1, true, Setup.LIMIT, 130, 4);
        return x;
    }

    /** "A message that could not be written is not done". */
    private static void notWrittenIsNotDone() {
        for (int message = 0; message < 12; message++) {
            ClearedExchange x = before();
            long[] was = Snapshot.of(x);
            x.light(0);
            CHECK.due("message " + message, send(x, message), -9);
            CHECK.due("recover", x.recover(), 20);
            CHECK.same("message " + message + " was not done", Snapshot.of(x), was);
            CHECK.due("messages", x.messages(), 20);
            CHECK.due("no reply", x.reply(21), -1);
        }
    }

    /** "One that could not be answered is done", and promise 15: "or would have been". */
    private static void notAnsweredIsDone() {
        for (int message = 0; message < 12; message++) {
            ClearedExchange whole = before();
            int reply = send(whole, message);
            ClearedExchange x = before();
            x.light(1);
            CHECK.due("message " + message, send(x, message), -9);
            CHECK.due("recover", x.recover(), 21);
            CHECK.same("message " + message + " was done", Snapshot.of(x), Snapshot.of(whole));
            CHECK.due("messages", x.messages(), 21);
            CHECK.due("its reply", x.reply(21), reply);
            CHECK.due("no reply after it", x.reply(22), -1);
        }
    }

    private static ClearedExchange stopped() {
        ClearedExchange x = Setup.withDefaulter();
        x.light(0);
        x.endow(1);
        return x;
    }

    /** Promise 11: "false when the machine is down". */
    private static void lightingWhileDown() {
        for (int units : new int[] {-1, 0, 1, 200, 201}) {
            ClearedExchange x = stopped();
            CHECK.due("light " + units + " while down", x.light(units), false);
            CHECK.due("down still", x.down(), true);
            CHECK.due("recover", x.recover(), 9);
            for (int i = 0; i < 202; i++) {
                CHECK.due("no fuse was lit", x.endow(1), 0);
            }
        }
    }

    /** Promise 13: "-1 when the machine is not down": the fuse burns on. */
    private static void recoveringWhenNotDown() {
        ClearedExchange x = new ClearedExchange(0);
        CHECK.due("recover at first", x.recover(), -1);
        x.light(1);
        CHECK.due("recover with a fuse", x.recover(), -1);
        CHECK.due("it is still lit", x.endow(1), -9);
        CHECK.due("recover", x.recover(), 1);
        CHECK.due("recover again", x.recover(), -1);
        CHECK.due("capital", x.cash(4), 1);
    }

    /** "Recovering .. puts the fuse out." */
    private static void recoveringPutsTheFuseOut() {
        for (int units = 0; units < 2; units++) {
            ClearedExchange x = new ClearedExchange(0);
            x.light(units);
            x.endow(1);
            CHECK.due("recover", x.recover(), units);
            CHECK.due("not down", x.down(), false);
            for (int i = 0; i < 202; i++) {
                CHECK.due("without a fuse", x.endow(1), 0);
            }
            CHECK.due("it may be lit again", x.light(0), true);
            CHECK.due("and burns", x.endow(1), -9);
        }
    }

    private static void stoppedAgainAndAgain() {
        ClearedExchange x = new ClearedExchange(0);
        for (int i = 1; i <= 60; i++) {
            x.light(1);
            CHECK.due("done, not answered", x.deposit(0, 1), -9);
            CHECK.due("recover", x.recover(), i);
            x.light(0);
            CHECK.due("not written", x.deposit(0, 1), -9);
            CHECK.due("while down", x.deposit(0, 1), -9);
            CHECK.due("recover", x.recover(), i);
            CHECK.due("cash", x.cash(0), i);
        }
    }

    /** "Every call but light, down and recover answers DOWN (a boolean one false)". */
    private static void booleanCallsWhileDown() {
        ClearedExchange x = stopped();
        CHECK.due("defaulter", x.defaulter(0), false);
        CHECK.due("defaulter of none", x.defaulter(4), false);
        CHECK.due("light", x.light(1), false);
        CHECK.due("down", x.down(), true);
        x.recover();
        CHECK.due("defaulter", x.defaulter(0), true);
        CHECK.due("down", x.down(), false);
    }

    private static void numbersOutOfRangeWhileDown() {
        ClearedExchange x = stopped();
        int[] answers = {
            x.deposit(4, 0), x.withdraw(4, 0), x.contribute(4, 0), x.endow(0), x.order(4, 2, true, 6, 0, 0),
            x.cancel(0), x.call(2), x.open(2), x.settle(0, 0), x.reply(0), (int) x.cash(5), (int) x.share(4),
            x.position(5, 2), (int) x.cost(5, 2), (int) x.spare(4), x.best(2, true), x.volume(2, true, 1), x.last(2),
            x.phase(2), x.state(0, 2), x.trade(16, 5),
        };
        for (int i = 0; i < answers.length; i++) {
            CHECK.due("call " + i + " with a wrong number while down", answers[i], -9);
        }
        CHECK.due("recover", x.recover(), 9);
    }

    private static void repliesOverAStop() {
        ClearedExchange x = new ClearedExchange(0);
        x.deposit(0, 100);
        x.light(3);
        CHECK.due("answered", x.order(0, 0, true, Setup.LIMIT, 100, 1), 1);
        CHECK.due("not answered", x.order(0, 0, true, Setup.LIMIT, 100, 2), -9);
        CHECK.due("while down", x.order(0, 0, true, Setup.LIMIT, 100, 3), -9);
        CHECK.due("recover", x.recover(), 3);
        CHECK.due("next", x.order(0, 0, true, Setup.LIMIT, 100, 4), 3);
        int[] due = {-1, 0, 1, 2, 3, -1};
        for (int k = 0; k < due.length; k++) {
            CHECK.due("reply " + k, x.reply(k), due[k]);
        }
    }

    private static void settlementOverAStop() {
        ClearedExchange x = Setup.withPositions(1000);
        x.light(1);
        CHECK.due("settle", x.settle(79, 100), -9);
        CHECK.due("recover", x.recover(), 9);
        CHECK.due("its reply", x.reply(9), 1);
        CHECK.due("defaulter", x.defaulter(0), true);
        CHECK.due("capital", x.cash(4), -50);
        CHECK.due("once alone", x.settle(79, 100), 0);
    }
}
