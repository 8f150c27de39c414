/** Promise 1. */
public final class NewObjectTest {
    public static void main(String[] args) {
        Bench bench = new Bench();
        ExchangeWire x = new ExchangeWire();
        bench.due("acts()", x.acts(), 0);
        bench.due("act(0, 0)", x.act(0, 0), -1);
        bench.due("sum(-1)", x.sum(-1), 0);
        for (int device = 0; device < 6; device++) {
            bench.due("state 0 of " + device, x.state(device, 0), -1);
            for (int what = 1; what <= 4; what++) {
                bench.due("state " + what + " of " + device, x.state(device, what), 0);
            }
            bench.due("answer of " + device, Bench.heard(x, device), "-");
            bench.due("join(" + device + ")", x.join(device), 0);
            bench.due("reset(" + device + ")", x.reset(device), 0);
        }
        nobodyOwesHasOrWaits(bench);
        objectsAreApart(bench);
        bench.end();
    }

    private static void nobodyOwesHasOrWaits(Bench bench) {
        for (int i = 0; i < 30; i++) {
            ExchangeWire x = new ExchangeWire();
            bench.dueVerdict(x, 0, "S0", "Y0S0");
            bench.dueVerdict(x, 0, "I1b" + i + "|", "Y0I1");
            bench.dueVerdict(x, 0, "P2a" + i + "|", "Y0P2");
            bench.due("waits(" + i + ", 0)", x.waits(i, 0), -1);
            bench.due("owes(" + i + ", 0)", x.owes(i, 0), 0);
        }
    }

    private static void objectsAreApart(Bench bench) {
        ExchangeWire first = new ExchangeWire();
        first.octet(0, 'S');
        first.owes(3, 70);
        first.sum(9);
        first.offline(2, 0, 1, 1);
        ExchangeWire second = new ExchangeWire();
        bench.due("the second's octet", second.octet(0, 'S'), 1);
        bench.due("the second's owes", second.owes(3, 0), 0);
        bench.due("the second's sum", second.sum(-1), 0);
        bench.due("the second's rows", second.state(2, 3), 0);
    }
}
