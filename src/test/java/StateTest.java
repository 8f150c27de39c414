/** Promise 11. */
public final class StateTest {
    public static void main(String[] args) {
        Bench bench = new Bench();
        ExchangeWire x = new ExchangeWire();
        for (int device : Bench.NO_DEVICES) {
            for (int what = 0; what < 5; what++) {
                bench.due("state(" + device + ", " + what + ")", x.state(device, what), -1);
            }
        }
        int[] wrongWhats = {-1, 5, 6, Integer.MIN_VALUE, Integer.MAX_VALUE};
        for (int what : wrongWhats) {
            bench.due("state(0, " + what + ")", x.state(0, what), -1);
        }
        eachWhat(bench);
        bench.end();
    }

    private static void all(Bench bench, ExchangeWire x, String when, int... want) {
        for (int what = 0; what < want.length; what++) {
            bench.due("state " + what + " " + when, x.state(5, what), want[what]);
        }
    }

    private static void eachWhat(Bench bench) {
        ExchangeWire x = new ExchangeWire();
        all(bench, x, "at first", -1, 0, 0, 0, 0);
        Bench.send(x, 5, "P9a1|");
        all(bench, x, "after a P without S", 9, 0, 0, 0, 0);
        Bench.send(x, 5, "S0");
        all(bench, x, "after S", 0, 1, 0, 0, 0);
        Bench.send(x, 5, "S0");
        Bench.send(x, 5, "Q3");
        all(bench, x, "after Q", 0, 1, 0, 0, 0);
        Bench.send(x, 5, "P4a30|");
        all(bench, x, "after an E", 4, 1, 0, 0, 0);
        Bench.send(x, 5, "B6b1|");
        all(bench, x, "after a no", 6, 1, 0, 0, 0);
        Bench.sendRaw(x, 5, "S8Z00");
        Bench.sendRaw(x, 5, "Q8Z00");
        Bench.sendRaw(x, 5, "");
        all(bench, x, "after three wrong ones", 6, 1, 0, 0, 3);
        x.offline(5, 0, 1, 1);
        x.offline(5, 0, 2, 1);
        all(bench, x, "with two rows", 6, 1, 0, 2, 3);
        Bench.type(x, 5, "1".repeat(61));
        all(bench, x, "broken", 6, 1, 1, 2, 3);
        x.reset(5);
        all(bench, x, "after a reset", -1, 0, 0, 2, 0);
        x.join(5);
        all(bench, x, "joined", -1, 0, 0, 0, 0);
        bench.due("another device", x.state(4, 0), -1);
    }
}
