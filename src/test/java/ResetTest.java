/** Promise 4. */
public final class ResetTest {
    public static void main(String[] args) {
        Bench bench = new Bench();
        ExchangeWire x = new ExchangeWire();
        for (int device : Bench.NO_DEVICES) {
            bench.due("reset(" + device + ")", x.reset(device), -1);
        }
        takesAway(bench);
        mendsABrokenLine(bench);
        leavesTheRest(bench);
        bench.end();
    }

    private static void takesAway(Bench bench) {
        ExchangeWire x = new ExchangeWire();
        Bench.send(x, 2, "S1");
        Bench.sendRaw(x, 2, "");
        Bench.send(x, 2, "C2a1|b1|");
        Bench.type(x, 2, "C3a");
        bench.due("three signs", x.reset(2), 3);
        bench.due("none is left", x.reset(2), 0);
        bench.due("no answer", Bench.heard(x, 2), "-");
        bench.due("no number", x.state(2, 0), -1);
        bench.due("no S", x.state(2, 1), 0);
        bench.due("none wrong", x.state(2, 4), 0);
        bench.dueVerdict(x, 2, "Q1", "XQ1");
        bench.dueVerdict(x, 2, "B2b1|", "XB2");
        bench.dueVerdict(x, 2, "S3", "Y0S3");
        bench.dueVerdict(x, 2, "B2b1|", "Y0B2");
        Bench.type(x, 2, "1".repeat(60));
        bench.due("sixty signs", x.reset(2), 60);
    }

    private static void mendsABrokenLine(Bench bench) {
        ExchangeWire x = new ExchangeWire();
        Bench.type(x, 0, "1".repeat(70));
        x.octet(0, 13);
        bench.due("broken", x.state(0, 2), 1);
        // A line is broken when it HAS more than 60 signs, and takes nothing after that.
        bench.due("61 signs", x.reset(0), 61);
        bench.due("not broken", x.state(0, 2), 0);
        bench.due("a sign", x.octet(0, 'S'), 1);
        bench.due("60 signs", Bench.type(x, 0, "1".repeat(59)), 60);
        bench.due("61 signs", x.octet(0, '1'), -2);
    }

    private static void leavesTheRest(Bench bench) {
        ExchangeWire x = new ExchangeWire();
        Bench.send(x, 0, "S1");
        Bench.send(x, 1, "S4");
        Bench.type(x, 1, "C3a");
        x.owes(5, 40);
        Bench.send(x, 0, "C2a1|b1|");
        Bench.send(x, 0, "H3a2|b1|");
        x.offline(0, 0, 3, 3);
        x.sum(7);
        x.reset(0);
        bench.due("the rows stay", x.state(0, 3), 1);
        bench.due("the acts stay", x.acts(), 2);
        bench.due("who waits stays", x.waits(1, 0), 2);
        bench.due("debts stay", x.owes(5, 0), 40);
        bench.due("the sum stays", x.sum(-1), 7);
        bench.due("the other line's signs", x.octet(1, '1'), 4);
        bench.due("the other line's number", x.state(1, 0), 4);
        bench.due("the other line's S", x.state(1, 1), 1);
        bench.due("the other line's answer", Bench.heard(x, 1), Bench.sealed("Y0S4"));
    }
}
