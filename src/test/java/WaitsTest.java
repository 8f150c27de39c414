/** Promise 12. */
public final class WaitsTest {
    public static void main(String[] args) {
        Bench bench = new Bench();
        ExchangeWire x = new ExchangeWire();
        x.offline(0, 0, 29, 0);
        x.join(0);
        Bench.send(x, 0, "S0");
        for (int person = 29; person > 0; person--) {
            int number = 1 + person % 9;
            Bench.type(x, 0, Bench.sealed("H" + number + "a" + person + "|b29|") + "\r");
        }
        for (int i = 0; i < 29; i++) {
            bench.due("waits(29, " + i + ")", x.waits(29, i), 29 - i);
        }
        int[] nobody = {-1, 29, 30, Integer.MIN_VALUE, Integer.MAX_VALUE};
        for (int i : nobody) {
            bench.due("waits(29, " + i + ")", x.waits(29, i), -1);
        }
        int[] noItems = {-1, 30, Integer.MIN_VALUE, Integer.MAX_VALUE};
        for (int item : noItems) {
            bench.due("waits(" + item + ", 0)", x.waits(item, 0), -1);
        }
        bench.due("another item", x.waits(28, 0), -1);
        x.offline(0, 1, 29, 0);
        x.offline(0, 0, 29, 29);
        bench.due("join", x.join(0), 2);
        for (int i = 0; i < 28; i++) {
            bench.due("then waits(29, " + i + ")", x.waits(29, i), 28 - i);
        }
        bench.due("then waits(29, 28)", x.waits(29, 28), -1);
        bench.end();
    }
}
