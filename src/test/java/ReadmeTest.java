import java.io.IOException;
import java.nio.file.Files;
import java.nio.file.Path;

/** README.md names every constructor and method of the document's face, and its example answers as it says. */
public final class ReadmeTest {
    private static final Check CHECK = new Check("ReadmeTest");
    private static final String[] FACE = {
        "ClearedExchange(int rate)", "int deposit(int member, int amount)", "int withdraw(int member, int amount)",
        "int contribute(int member, int amount)", "int endow(int amount)",
        "int order(int member, int contract, boolean buy, int kind, int price, int quantity)",
        "int cancel(int order)", "int call(int contract)", "int open(int contract)",
        "int settle(int mark0, int mark1)", "boolean light(int n)", "boolean down()", "int recover()",
        "int messages()", "int reply(int k)", "long cash(int member)", "long share(int member)",
        "int position(int member, int contract)", "long cost(int member, int contract)", "long spare(int member)",
        "boolean defaulter(int member)", "int best(int contract, boolean buy)",
        "int volume(int contract, boolean buy, int price)", "int last(int contract)", "int phase(int contract)",
        "int state(int order, int w)", "int trades()", "int trade(int k, int w)",
    };

    public static void main(String[] args) throws IOException {
        everyMethodIsThere();
        exampleAnswersAsItSays();
        CHECK.end();
    }

    private static void everyMethodIsThere() throws IOException {
        String readme = Files.readString(Path.of("README.md"));
        for (String heading : FACE) {
            CHECK.due("README.md has " + heading, readme.contains("`" + heading + "`"), true);
        }
    }

    private static void exampleAnswersAsItSays() {
        ClearedExchange x = new ClearedExchange(5);
        CHECK.due("deposit", x.deposit(0, 5000), 0);
        CHECK.due("deposit", x.deposit(1, 5000), 0);
        CHECK.due("buy", x.order(0, 0, true, 0, 102, 10), 1);
        CHECK.due("sell", x.order(1, 0, false, 0, 99, 4), 2);
        CHECK.due("open", x.open(0), 1);
        CHECK.due("last", x.last(0), 99);
        CHECK.due("settle", x.settle(105, 100), 0);
        CHECK.due("cash", x.cash(0), 5024);
    }
}
