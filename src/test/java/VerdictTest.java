/** Terms: the verdicts of each KIND, and the numbers behind them. */
public final class VerdictTest {
    public static void main(String[] args) {
        Bench bench = new Bench();
        lending(bench);
        owing(bench);
        waiting(bench);
        waitingAgain(bench);
        renewing(bench);
        paying(bench);
        bench.end();
    }

    private static void lending(Bench bench) {
        Desk desk = new Desk(bench);
        desk.ask("S", "", "Y0");
        desk.ask("C", "a3|b5|", "Y1");
        desk.ask("C", "a3|b6|", "Y2");
        desk.ask("C", "a3|b6|", "X2");
        desk.ask("C", "a4|b6|", "X0");
        desk.ask("I", "b6|", "Y4");
        desk.ask("B", "b6|", "Y0");
        desk.ask("B", "b6|", "X0");
        desk.ask("I", "b6|", "Y0");
        desk.ask("C", "a0|b6|", "Y1");
        desk.ask("I", "b6|", "Y1");
        bench.due("acts", desk.wire.acts(), 4);
        for (int item = 7; item < 18; item++) {
            desk.ask("C", "a3|b" + item + "|", "Y" + (item - 5));
        }
    }

    private static void owing(Bench bench) {
        Desk desk = new Desk(bench);
        desk.wire.owes(3, 501);
        desk.ask("C", "a3|b5|", "X0");
        desk.wire.owes(3, 500);
        desk.ask("C", "a3|b5|", "Y1");
        desk.wire.owes(3, 501);
        desk.ask("C", "a3|b6|", "X1");
        desk.ask("R", "a3|b5|", "Y1");
        desk.ask("B", "b5|", "Y0");
        bench.due("acts", desk.wire.acts(), 3);
    }

    private static void waiting(Bench bench) {
        Desk desk = new Desk(bench);
        desk.ask("H", "a4|b5|", "X0");
        desk.ask("C", "a3|b5|", "Y1");
        desk.ask("H", "a3|b5|", "X0");
        desk.ask("H", "a4|b5|", "Y1");
        desk.ask("H", "a4|b5|", "X1");
        desk.ask("H", "a6|b5|", "Y2");
        desk.ask("H", "a4|b6|", "X0");
        desk.ask("C", "a4|b5|", "X0");
        desk.ask("B", "b5|", "Y2");
        desk.ask("B", "b5|", "X2");
        desk.ask("H", "a7|b5|", "X2");
        desk.ask("C", "a3|b5|", "X0");
        desk.ask("C", "a6|b5|", "X0");
        desk.wire.owes(4, 501);
        desk.ask("C", "a4|b5|", "X0");
        bench.due("still first", desk.wire.waits(5, 0), 4);
        desk.wire.owes(4, 0);
        desk.ask("C", "a4|b5|", "Y1");
        bench.due("6 is first now", desk.wire.waits(5, 0), 6);
        bench.due("nobody else", desk.wire.waits(5, 1), -1);
        desk.ask("H", "a4|b5|", "X1");
        desk.ask("H", "a3|b5|", "Y2");
    }

    private static void waitingAgain(Bench bench) {
        Desk desk = new Desk(bench);
        desk.ask("C", "a3|b5|", "Y1");
        desk.ask("H", "a0|b5|", "Y1");
        desk.ask("B", "b5|", "Y1");
        desk.ask("C", "a0|b5|", "Y1");
        desk.ask("H", "a3|b5|", "Y1");
        desk.ask("B", "b5|", "Y1");
        desk.ask("C", "a3|b5|", "Y1");
        desk.ask("H", "a0|b5|", "Y1");
        desk.ask("C", "a1|b6|", "Y1");
        desk.ask("H", "a0|b6|", "Y1");
    }

    private static void renewing(Bench bench) {
        Desk desk = new Desk(bench);
        desk.ask("R", "a3|b5|", "X0");
        desk.ask("C", "a3|b5|", "Y1");
        desk.ask("R", "a4|b5|", "X0");
        desk.ask("R", "a3|b5|", "Y1");
        desk.ask("H", "a4|b5|", "Y1");
        desk.ask("R", "a3|b5|", "X1");
        desk.ask("C", "a3|b6|", "Y2");
        desk.ask("R", "a3|b6|", "Y1");
        desk.ask("R", "a3|b6|", "Y2");
        desk.ask("R", "a3|b6|", "X2");
        desk.ask("R", "a4|b6|", "X2");
        desk.ask("B", "b6|", "Y0");
        // "Since it was lent": what is back has not been lent anew.
        desk.ask("R", "a3|b6|", "X2");
        desk.ask("C", "a3|b6|", "Y2");
        desk.ask("R", "a3|b6|", "Y1");
    }

    private static void paying(Bench bench) {
        Desk desk = new Desk(bench);
        desk.ask("F", "a2|c1|", "X0");
        desk.ask("F", "a2|c0|", "Y0");
        desk.wire.owes(2, 700);
        desk.ask("F", "a2|c701|", "X700");
        desk.ask("F", "a2|c300|", "Y400");
        desk.ask("P", "a2|", "Y400");
        desk.ask("F", "a2|c400|", "Y0");
        desk.wire.owes(2, 100000);
        desk.ask("F", "a2|c50000|", "Y50000");
        desk.ask("F", "a2|c50001|", "Ec");
        bench.due("owes", desk.wire.owes(2, 0), 50000);
        bench.due("acts", desk.wire.acts(), 4);
    }
}
