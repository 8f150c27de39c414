/** Promises 5 and 6. */
public final class RowsTest {
    public static void main(String[] args) {
        Bench bench = new Bench();
        wrongNumbers(bench);
        twentyRows(bench);
        joinedInOrder(bench);
        joinedAsMessages(bench);
        leavesTheLine(bench);
        bench.end();
    }

    private static void wrongNumbers(Bench bench) {
        ExchangeWire x = new ExchangeWire();
        for (int device : Bench.NO_DEVICES) {
            bench.due("offline of " + device, x.offline(device, 0, 0, 0), -1);
            bench.due("join of " + device, x.join(device), -1);
        }
        int[] tooFar = {-1, 30, Integer.MIN_VALUE, Integer.MAX_VALUE};
        for (int bad : tooFar) {
            bench.due("kind " + bad, x.offline(0, bad, 0, 0), -1);
            bench.due("item " + bad, x.offline(0, 0, bad, 0), -1);
            bench.due("person " + bad, x.offline(0, 0, 0, bad), -1);
            bench.due("person of B " + bad, x.offline(0, 1, 0, bad), -1);
        }
        bench.due("kind 2", x.offline(0, 2, 0, 0), -1);
        bench.due("no rows", x.state(0, 3), 0);
        bench.due("the last of all", x.offline(5, 1, 29, 29), 1);
    }

    private static void twentyRows(Bench bench) {
        ExchangeWire x = new ExchangeWire();
        for (int i = 1; i <= 20; i++) {
            bench.due("row " + i, x.offline(3, 0, i, 1), i);
        }
        bench.due("row 21", x.offline(3, 0, 21, 1), -2);
        bench.due("row 21 with a wrong number", x.offline(3, 0, 30, 1), -1);
        bench.due("another device", x.offline(4, 0, 21, 1), 1);
        bench.due("20 rows", x.state(3, 3), 20);
        bench.due("join", x.join(3), 20);
        bench.due("no rows", x.state(3, 3), 0);
        bench.due("join again", x.join(3), 0);
        bench.due("acts", x.acts(), 20);
        bench.due("the last act's item", x.act(19, 2), 20);
        bench.due("row 1 again", x.offline(3, 0, 21, 1), 1);
    }

    private static void joinedInOrder(Bench bench) {
        ExchangeWire x = new ExchangeWire();
        x.offline(1, 1, 7, 5);
        x.offline(1, 0, 7, 2);
        x.offline(1, 0, 7, 3);
        x.offline(1, 1, 7, 0);
        x.offline(1, 0, 7, 3);
        bench.due("nothing is done before", x.acts(), 0);
        bench.due("join", x.join(1), 3);
        int[][] acts = {{1, 'C', 7, 2, -1}, {1, 'B', 7, 2, -1}, {1, 'C', 7, 3, -1}};
        for (int i = 0; i < acts.length; i++) {
            for (int what = 0; what < 5; what++) {
                bench.due("act(" + i + ", " + what + ")", x.act(i, what), acts[i][what]);
            }
        }
        bench.due("acts", x.acts(), 3);
    }

    private static void joinedAsMessages(Bench bench) {
        ExchangeWire x = new ExchangeWire();
        Bench.send(x, 0, "S0");
        Bench.send(x, 0, "C1a3|b5|");
        Bench.send(x, 0, "R2a3|b5|");
        Bench.send(x, 0, "H3a4|b5|");
        Bench.send(x, 0, "H4a6|b5|");
        x.owes(9, 501);
        x.offline(2, 0, 8, 9);
        x.offline(2, 0, 5, 4);
        x.offline(2, 1, 5, 4);
        x.offline(2, 0, 5, 6);
        x.offline(2, 0, 5, 4);
        bench.due("join", x.join(2), 2);
        bench.due("4 waits no more", x.waits(5, 0), 6);
        bench.due("one waits", x.waits(5, 1), -1);
        bench.due("it was lent to 3", x.act(4, 3), 3);
        bench.due("a row has no number", x.act(4, 4), -1);
        bench.due("nor has the next", x.act(5, 4), -1);
        bench.dueVerdict(x, 0, "R5a4|b5|", "X0R5");
        bench.dueVerdict(x, 0, "I6b5|", "Y5I6");
    }

    private static void leavesTheLine(Bench bench) {
        ExchangeWire x = new ExchangeWire();
        Bench.sendRaw(x, 0, "");
        Bench.send(x, 0, "P7a1|");
        Bench.type(x, 0, "ab");
        x.offline(0, 0, 8, 9);
        bench.due("join", x.join(0), 1);
        bench.due("the number", x.state(0, 0), 7);
        bench.due("no S", x.state(0, 1), 0);
        bench.due("wrong ones", x.state(0, 4), 1);
        bench.due("the answer", Bench.heard(x, 0), Bench.sealed("XP7"));
        bench.due("the signs", x.octet(0, 'c'), 3);
        Bench.type(x, 0, "1".repeat(60));
        bench.due("a row of a broken line", x.offline(0, 1, 8, 0), 1);
        bench.due("join of a broken line", x.join(0), 1);
        bench.due("it is broken", x.state(0, 2), 1);
    }
}
