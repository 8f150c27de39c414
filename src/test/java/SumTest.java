/** Promise 10. */
public final class SumTest {
    public static void main(String[] args) {
        Bench bench = new Bench();
        ExchangeWire x = new ExchangeWire();
        bench.due("sum(0)", x.sum(0), 0);
        bench.due("sum(200)", x.sum(200), 200);
        bench.due("sum(0) adds nothing", x.sum(0), 200);
        bench.due("sum(55)", x.sum(55), 255);
        bench.due("sum(1)", x.sum(1), 0);
        bench.due("sum(300)", x.sum(300), 44);
        bench.due("messages have sums of their own", Bench.send(x, 0, "S0"), "Y0S0Z0C");
        bench.due("sum(-1)", x.sum(-1), 44);
        bench.due("sum(-1) again", x.sum(-1), 0);
        bench.due("sum(7)", x.sum(7), 7);
        bench.due("sum(lowest)", x.sum(Integer.MIN_VALUE), 7);
        bench.due("sum(9)", x.sum(9), 9);
        bench.due("sum(highest)", x.sum(Integer.MAX_VALUE), 8);
        bench.due("sum(highest) again", x.sum(Integer.MAX_VALUE), 7);
        bench.due("sum(-2)", x.sum(-2), 7);
        bench.end();
    }
}
