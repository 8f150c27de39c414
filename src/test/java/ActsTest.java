/** Promises 8 and 9. */
public final class ActsTest {
    public static void main(String[] args) {
        Bench bench = new Bench();
        eachKind(bench);
        manyActs(bench);
        bench.end();
    }

    private static void eachKind(Bench bench) {
        ExchangeWire x = new ExchangeWire();
        x.owes(3, 10);
        Bench.send(x, 4, "S0");
        Bench.send(x, 4, "P1a3|");
        Bench.send(x, 4, "I2b3|");
        bench.due("S, P and I are no acts", x.acts(), 0);
        Bench.send(x, 4, "C3a3|b5|");
        Bench.send(x, 4, "C4a3|b5|");
        Bench.send(x, 4, "R5a3|b5|");
        Bench.send(x, 4, "H6a4|b5|");
        Bench.send(x, 4, "F7a3|c11|");
        Bench.send(x, 4, "F8a3|c10|");
        Bench.send(x, 4, "B9b5|");
        Bench.send(x, 4, "B9b5|");
        Bench.send(x, 4, "Q9");
        Bench.send(x, 5, "S0");
        Bench.send(x, 5, "C0a4|b5|");
        Bench.send(x, 5, "C1a4|b5|");
        int[][] acts = {
            {4, 'C', 5, 3, 3}, {4, 'R', 5, 3, 5}, {4, 'H', 5, 4, 6}, {4, 'F', -1, 3, 8}, {4, 'B', 5, 3, 9}, {5, 'C', 5, 4, 1},
        };
        bench.due("acts()", x.acts(), acts.length);
        for (int i = 0; i < acts.length; i++) {
            for (int what = 0; what < 5; what++) {
                bench.due("act(" + i + ", " + what + ")", x.act(i, what), acts[i][what]);
            }
            int[] wrongWhats = {-1, 5, Integer.MIN_VALUE, Integer.MAX_VALUE};
            for (int what : wrongWhats) {
                bench.due("act(" + i + ", " + what + ")", x.act(i, what), -1);
            }
        }
        int[] noActs = {-1, acts.length, 1000, Integer.MIN_VALUE, Integer.MAX_VALUE};
        for (int i : noActs) {
            bench.due("act(" + i + ", 1)", x.act(i, 1), -1);
        }
    }

    private static void manyActs(Bench bench) {
        ExchangeWire x = new ExchangeWire();
        int calls = 0;
        int acts = 0;
        while (calls + 21 <= 500) {
            for (int i = 0; i < 20; i++) {
                x.offline(0, i % 2, i / 2, i);
            }
            bench.due("join", x.join(0), 20);
            acts += 20;
            calls += 21;
        }
        bench.due("acts()", x.acts(), acts);
        bench.due("the last one's kind", x.act(acts - 1, 1), 'B');
        bench.due("the last one's person", x.act(acts - 1, 3), 18);
        bench.due("no more", x.act(acts, 1), -1);
    }
}
