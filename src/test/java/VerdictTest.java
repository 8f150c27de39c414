/** Terms: the verdicts of each KIND, and the numbers behind them. */
public final class VerdictTest {
    private static int number = 0;

    public static void main(String[] args) {
        Bench bench = new Bench();
        lending(bench);
        owing(bench);
        waiting(bench);
        waitingAgain(bench);
        renewing(bench);
        paying(bench);
        bench.end();
    }

    private static ExchangeWire signedOn() {
        ExchangeWire x = new ExchangeWire();
        number = 0;
        Bench.send(x, 0, "S0");
        return x;
    }

    /** Sends with the next number, so that no message repeats the one before. */
    private static void ask(Bench bench, ExchangeWire x, String kind, String fields, String want) {
        number = (number + 1) % 10;
        bench.dueVerdict(x, 0, kind + number + fields, want + kind + number);
    }

    private static void lending(Bench bench) {
        ExchangeWire x = signedOn();
        ask(bench, x, "S", "", "Y0");
        ask(bench, x, "C", "a3|b5|", "Y1");
        ask(bench, x, "C", "a3|b6|", "Y2");
        ask(bench, x, "C", "a3|b6|", "X2");
        ask(bench, x, "C", "a4|b6|", "X0");
        ask(bench, x, "I", "b6|", "Y4");
        ask(bench, x, "B", "b6|", "Y0");
        ask(bench, x, "B", "b6|", "X0");
        ask(bench, x, "I", "b6|", "Y0");
        ask(bench, x, "C", "a0|b6|", "Y1");
        ask(bench, x, "I", "b6|", "Y1");
        bench.due("acts", x.acts(), 4);
        for (int item = 7; item < 18; item++) {
            ask(bench, x, "C", "a3|b" + item + "|", "Y" + (item - 5));
        }
    }

    private static void owing(Bench bench) {
        ExchangeWire x = signedOn();
        x.owes(3, 501);
        ask(bench, x, "C", "a3|b5|", "X0");
        x.owes(3, 500);
        ask(bench, x, "C", "a3|b5|", "Y1");
        x.owes(3, 501);
        ask(bench, x, "C", "a3|b6|", "X1");
        ask(bench, x, "R", "a3|b5|", "Y1");
        ask(bench, x, "B", "b5|", "Y0");
        bench.due("acts", x.acts(), 3);
    }

    private static void waiting(Bench bench) {
        ExchangeWire x = signedOn();
        ask(bench, x, "H", "a4|b5|", "X0");
        ask(bench, x, "C", "a3|b5|", "Y1");
        ask(bench, x, "H", "a3|b5|", "X0");
        ask(bench, x, "H", "a4|b5|", "Y1");
        ask(bench, x, "H", "a4|b5|", "X1");
        ask(bench, x, "H", "a6|b5|", "Y2");
        ask(bench, x, "H", "a4|b6|", "X0");
        ask(bench, x, "C", "a4|b5|", "X0");
        ask(bench, x, "B", "b5|", "Y2");
        ask(bench, x, "B", "b5|", "X2");
        ask(bench, x, "H", "a7|b5|", "X2");
        ask(bench, x, "C", "a3|b5|", "X0");
        ask(bench, x, "C", "a6|b5|", "X0");
        x.owes(4, 501);
        ask(bench, x, "C", "a4|b5|", "X0");
        bench.due("still first", x.waits(5, 0), 4);
        x.owes(4, 0);
        ask(bench, x, "C", "a4|b5|", "Y1");
        bench.due("6 is first now", x.waits(5, 0), 6);
        bench.due("nobody else", x.waits(5, 1), -1);
        ask(bench, x, "H", "a4|b5|", "X1");
        ask(bench, x, "H", "a3|b5|", "Y2");
    }

    private static void waitingAgain(Bench bench) {
        ExchangeWire x = signedOn();
        ask(bench, x, "C", "a3|b5|", "Y1");
        ask(bench, x, "H", "a0|b5|", "Y1");
        ask(bench, x, "B", "b5|", "Y1");
        ask(bench, x, "C", "a0|b5|", "Y1");
        ask(bench, x, "H", "a3|b5|", "Y1");
        ask(bench, x, "B", "b5|", "Y1");
        ask(bench, x, "C", "a3|b5|", "Y1");
        ask(bench, x, "H", "a0|b5|", "Y1");
        ask(bench, x, "C", "a1|b6|", "Y1");
        ask(bench, x, "H", "a0|b6|", "Y1");
    }

    private static void renewing(Bench bench) {
        ExchangeWire x = signedOn();
        ask(bench, x, "R", "a3|b5|", "X0");
        ask(bench, x, "C", "a3|b5|", "Y1");
        ask(bench, x, "R", "a4|b5|", "X0");
        ask(bench, x, "R", "a3|b5|", "Y1");
        ask(bench, x, "H", "a4|b5|", "Y1");
        ask(bench, x, "R", "a3|b5|", "X1");
        ask(bench, x, "C", "a3|b6|", "Y2");
        ask(bench, x, "R", "a3|b6|", "Y1");
        ask(bench, x, "R", "a3|b6|", "Y2");
        ask(bench, x, "R", "a3|b6|", "X2");
        ask(bench, x, "R", "a4|b6|", "X2");
        ask(bench, x, "B", "b6|", "Y0");
        // "Since it was lent": what is back has not been lent anew.
        ask(bench, x, "R", "a3|b6|", "X2");
        ask(bench, x, "C", "a3|b6|", "Y2");
        ask(bench, x, "R", "a3|b6|", "Y1");
    }

    private static void paying(Bench bench) {
        ExchangeWire x = signedOn();
        ask(bench, x, "F", "a2|c1|", "X0");
        ask(bench, x, "F", "a2|c0|", "Y0");
        x.owes(2, 700);
        ask(bench, x, "F", "a2|c701|", "X700");
        ask(bench, x, "F", "a2|c300|", "Y400");
        ask(bench, x, "P", "a2|", "Y400");
        ask(bench, x, "F", "a2|c400|", "Y0");
        x.owes(2, 100000);
        ask(bench, x, "F", "a2|c50000|", "Y50000");
        ask(bench, x, "F", "a2|c50001|", "Ec");
        bench.due("owes", x.owes(2, 0), 50000);
        bench.due("acts", x.acts(), 4);
    }
}
