/** Promise 7. */
public final class OwesTest {
    public static void main(String[] args) {
        Bench bench = new Bench();
        ExchangeWire x = new ExchangeWire();
        for (int person = 0; person < 30; person++) {
            bench.due("owes first", x.owes(person, 100 + person), 0);
        }
        for (int person = 0; person < 30; person++) {
            bench.due("owes then", x.owes(person, 100000), 100 + person);
        }
        int[] wrongCents = {-1, 100001, Integer.MIN_VALUE, Integer.MAX_VALUE};
        for (int cents : wrongCents) {
            bench.due("owes(1, " + cents + ")", x.owes(1, cents), -1);
        }
        int[] nobody = {-1, 30, Integer.MIN_VALUE, Integer.MAX_VALUE};
        for (int person : nobody) {
            bench.due("owes(" + person + ", 1)", x.owes(person, 1), -1);
        }
        bench.due("unchanged", x.owes(1, 0), 100000);
        bench.due("0 is fine", x.owes(1, 5), 0);
        Bench.send(x, 0, "S0");
        Bench.send(x, 0, "F1a1|c2|");
        bench.due("after a payment", x.owes(1, 0), 3);
        bench.due("owes is no act", x.acts(), 1);
        bench.end();
    }
}
