/** Terms: the edges of each kind's verdict and number, of what is an act, and of joined rows. */
public final class VerdictEdgesTest {
    public static void main(String[] args) {
        Bench bench = new Bench();
        signOn(bench);
        lendIfLentToNobody(bench);
        lendIfNobodyWaitsOrToTheFirst(bench);
        lendIfItOwesAtMost500(bench);
        lentWaitsNoMore(bench);
        howManyItems(bench);
        bringBackIfLent(bench);
        howManyWaitWhenItIsBack(bench);
        whatAPersonOwes(bench);
        payNotMoreThanOwed(bench);
        waitIfLentToSomebodyElse(bench);
        renewIfLentToThisPerson(bench);
        renewIfNobodyWaits(bench);
        renewLessThanTwice(bench);
        renewedSinceItWasLent(bench);
        actsAreVerdictsYes(bench);
        twentyRows(bench);
        rowsAreDoneInOrder(bench);
        rowsHaveTheVerdictsOfMessages(bench);
        bench.end();
    }

    /** Item lent to person by a row: two calls, where a message takes a dozen. */
    private static void lend(Desk desk, int item, int person) {
        desk.wire.offline(5, 0, item, person);
        desk.wire.join(5);
    }

    private static void signOn(Bench bench) {
        bench.by("S: Y0.");
        ExchangeWire x = new ExchangeWire();
        bench.dueVerdict(x, 0, "S1", "Y0S1");
        bench.dueVerdict(x, 0, "S2", "Y0S2");
        bench.due("S was done", x.state(0, 1), 1);
    }

    private static void lendIfLentToNobody(Bench bench) {
        bench.by("C: yes if the item is lent to nobody");
        Desk desk = new Desk(bench);
        desk.ask("C", "a0|b0|", "Y1");
        desk.ask("C", "a0|b0|", "X1");
        desk.ask("C", "a1|b0|", "X0");
        desk.ask("I", "b0|", "Y1");
        desk.ask("B", "b0|", "Y0");
        desk.ask("C", "a1|b0|", "Y1");
        desk.ask("C", "a0|b1|", "Y1");
    }

    private static void lendIfNobodyWaitsOrToTheFirst(Bench bench) {
        bench.by("nobody waits for it, or that person is the first");
        Desk desk = new Desk(bench);
        lend(desk, 0, 9);
        desk.tell("H", "a0|b0|");
        desk.tell("H", "a1|b0|");
        desk.ask("C", "a0|b0|", "X0");
        desk.tell("B", "b0|");
        desk.ask("C", "a9|b0|", "X0");
        desk.ask("C", "a2|b0|", "X0");
        desk.ask("C", "a1|b0|", "X0");
        desk.ask("C", "a0|b0|", "Y1");
        desk.tell("B", "b0|");
        desk.ask("C", "a0|b0|", "X0");
        desk.ask("C", "a1|b0|", "Y1");
        desk.tell("B", "b0|");
        desk.ask("C", "a2|b0|", "Y1");
    }

    private static void lendIfItOwesAtMost500(Bench bench) {
        bench.by("and the person OWES at most 500");
        Desk desk = new Desk(bench);
        desk.wire.owes(4, 501);
        desk.ask("C", "a4|b1|", "X0");
        desk.wire.owes(4, 100000);
        desk.ask("C", "a4|b1|", "X0");
        desk.ask("C", "a5|b2|", "Y1");
        desk.wire.owes(4, 500);
        desk.ask("C", "a4|b1|", "Y1");
        desk.wire.owes(4, 501);
        desk.ask("F", "a4|c1|", "Y500");
        desk.ask("C", "a4|b3|", "Y2");
        lend(desk, 6, 9);
        desk.tell("H", "a7|b6|");
        desk.tell("B", "b6|");
        desk.wire.owes(7, 501);
        desk.ask("C", "a7|b6|", "X0");
        desk.wire.owes(7, 500);
        desk.ask("C", "a7|b6|", "Y1");
    }

    private static void lentWaitsNoMore(Bench bench) {
        bench.by("the person waits for it no more then");
        Desk desk = new Desk(bench);
        lend(desk, 0, 9);
        lend(desk, 1, 9);
        desk.tell("H", "a4|b0|");
        desk.tell("H", "a5|b0|");
        desk.tell("H", "a4|b1|");
        desk.tell("B", "b0|");
        desk.wire.owes(4, 501);
        desk.ask("C", "a4|b0|", "X0");
        bench.due("after a no it waits", desk.wire.waits(0, 0), 4);
        desk.wire.owes(4, 500);
        desk.ask("C", "a4|b0|", "Y1");
        bench.due("the next is first", desk.wire.waits(0, 0), 5);
        bench.due("one waits", desk.wire.waits(0, 1), -1);
        bench.due("it waits for the other item", desk.wire.waits(1, 0), 4);
        desk.tell("B", "b0|");
        desk.ask("C", "a5|b0|", "Y1");
        bench.due("nobody waits", desk.wire.waits(0, 0), -1);
        desk.ask("H", "a4|b0|", "Y1");
    }

    private static void howManyItems(Bench bench) {
        bench.by("the number is how many items the person has");
        Desk desk = new Desk(bench);
        desk.wire.owes(8, 501);
        desk.ask("C", "a8|b0|", "X0");
        for (int item = 0; item < 8; item++) {
            desk.wire.offline(0, 0, item, 7);
        }
        desk.wire.join(0);
        desk.ask("C", "a7|b8|", "Y9");
        desk.ask("C", "a7|b9|", "Y10");
        desk.ask("C", "a7|b9|", "X10");
        for (int item = 10; item < 29; item++) {
            desk.wire.offline(0, 0, item, 7);
        }
        desk.wire.join(0);
        desk.ask("C", "a7|b29|", "Y30");
        desk.ask("C", "a7|b0|", "X30");
        desk.ask("C", "a6|b0|", "X0");
        desk.tell("B", "b0|");
        desk.ask("C", "a7|b1|", "X29");
    }

    private static void bringBackIfLent(Bench bench) {
        bench.by("B: yes if it is lent (then it is lent to nobody)");
        Desk desk = new Desk(bench);
        desk.ask("B", "b0|", "X0");
        lend(desk, 0, 0);
        desk.ask("B", "b1|", "X0");
        desk.ask("B", "b0|", "Y0");
        desk.ask("I", "b0|", "Y0");
        desk.ask("B", "b0|", "X0");
        bench.due("acts", desk.wire.acts(), 2);
    }

    private static void howManyWaitWhenItIsBack(Bench bench) {
        bench.by("the number is how many wait for it");
        Desk desk = new Desk(bench);
        lend(desk, 4, 0);
        for (int person = 1; person <= 9; person++) {
            desk.tell("H", "a" + person + "|b4|");
        }
        desk.ask("B", "b4|", "Y9");
        desk.ask("B", "b4|", "X9");
        lend(desk, 4, 1);
        desk.ask("H", "a0|b4|", "Y9");
        desk.ask("H", "a10|b4|", "Y10");
        desk.ask("B", "b4|", "Y10");
    }

    private static void whatAPersonOwes(Bench bench) {
        bench.by("P: Y, what the person OWES.");
        int[] debts = {0, 9, 10, 99, 100, 999, 1000, 9999, 10000, 99999, 100000};
        Desk desk = new Desk(bench);
        for (int debt : debts) {
            desk.wire.owes(0, debt);
            desk.ask("P", "a0|", "Y" + debt);
        }
    }

    private static void payNotMoreThanOwed(Bench bench) {
        bench.by("F: yes if c is not more than the person OWES, which is less by that then");
        Desk desk = new Desk(bench);
        desk.ask("F", "a0|c0|", "Y0");
        desk.ask("F", "a0|c1|", "X0");
        desk.wire.owes(0, 10);
        desk.ask("F", "a0|c11|", "X10");
        desk.ask("F", "a0|c9|", "Y1");
        desk.ask("F", "a0|c2|", "X1");
        desk.ask("F", "a0|c1|", "Y0");
        desk.wire.owes(0, 50000);
        desk.ask("F", "a0|c50000|", "Y0");
        desk.wire.owes(0, 49999);
        desk.ask("F", "a0|c50000|", "X49999");
        desk.wire.owes(0, 100000);
        desk.ask("F", "a1|c1|", "X0");
        desk.ask("F", "a0|c0|", "Y100000");
        desk.ask("F", "a0|c50000|", "Y50000");
        bench.due("acts", desk.wire.acts(), 6);
    }

    private static void waitIfLentToSomebodyElse(Bench bench) {
        bench.by("H: yes if it is lent to somebody else, and the person does not wait; how many wait for it");
        Desk desk = new Desk(bench);
        desk.ask("H", "a0|b0|", "X0");
        lend(desk, 0, 0);
        desk.ask("H", "a0|b0|", "X0");
        desk.ask("H", "a1|b1|", "X0");
        desk.ask("H", "a1|b0|", "Y1");
        desk.ask("H", "a1|b0|", "X1");
        desk.ask("H", "a2|b0|", "Y2");
        desk.ask("H", "a0|b0|", "X2");
        desk.tell("B", "b0|");
        desk.ask("H", "a0|b0|", "X2");
        // Owing does not keep a person from waiting.
        lend(desk, 0, 1);
        desk.wire.owes(0, 501);
        desk.ask("H", "a0|b0|", "Y2");
    }

    private static void renewIfLentToThisPerson(Bench bench) {
        bench.by("R: yes if it is lent to this person");
        Desk desk = new Desk(bench);
        desk.ask("R", "a0|b0|", "X0");
        lend(desk, 0, 0);
        desk.ask("R", "a1|b0|", "X0");
        desk.ask("R", "a0|b1|", "X0");
        desk.ask("R", "a0|b0|", "Y1");
        desk.tell("B", "b0|");
        lend(desk, 0, 1);
        desk.ask("R", "a0|b0|", "X0");
        // Owing does not keep a person from renewing.
        desk.wire.owes(1, 501);
        desk.ask("R", "a1|b0|", "Y1");
    }

    private static void renewIfNobodyWaits(Bench bench) {
        bench.by("R: yes if it is lent to this person, nobody waits");
        Desk desk = new Desk(bench);
        lend(desk, 0, 0);
        lend(desk, 1, 0);
        desk.tell("H", "a1|b0|");
        desk.ask("R", "a0|b0|", "X0");
        desk.ask("R", "a0|b1|", "Y1");
        desk.tell("B", "b0|");
        lend(desk, 0, 1);
        desk.ask("R", "a1|b0|", "Y1");
        desk.tell("H", "a0|b0|");
        desk.ask("R", "a1|b0|", "X1");
    }

    private static void renewLessThanTwice(Bench bench) {
        bench.by("it was renewed less than twice since it was lent; how often it was");
        Desk desk = new Desk(bench);
        lend(desk, 0, 0);
        lend(desk, 1, 0);
        desk.ask("R", "a0|b0|", "Y1");
        desk.ask("R", "a0|b0|", "Y2");
        desk.ask("R", "a0|b0|", "X2");
        desk.ask("R", "a0|b0|", "X2");
        desk.ask("R", "a0|b1|", "Y1");
        bench.due("acts", desk.wire.acts(), 5);
    }

    private static void renewedSinceItWasLent(Bench bench) {
        bench.by("it was renewed less than twice since it was lent; how often it was");
        Desk desk = new Desk(bench);
        lend(desk, 0, 0);
        desk.tell("R", "a0|b0|");
        desk.tell("R", "a0|b0|");
        desk.tell("B", "b0|");
        desk.ask("R", "a0|b0|", "X2");
        desk.ask("C", "a0|b0|", "Y1");
        desk.ask("R", "a1|b0|", "X0");
        desk.ask("R", "a0|b0|", "Y1");
        desk.ask("R", "a0|b0|", "Y2");
        desk.ask("R", "a0|b0|", "X2");
        // A lending that is refused is none.
        desk.ask("C", "a0|b0|", "X1");
        desk.ask("R", "a0|b0|", "X2");
    }

    private static void actsAreVerdictsYes(Bench bench) {
        bench.by("ACTS are messages C, B, F, H, R with the verdict yes, in order.");
        String[][] messages = {
            {"S", "", "Y0", ""}, {"P", "a1|", "Y0", ""}, {"I", "b1|", "Y0", ""}, {"C", "a1|b1|", "Y1", "C"},
            {"C", "a1|b1|", "X1", ""}, {"C", "a30|b2|", "Ea", ""}, {"R", "a1|b1|", "Y1", "R"}, {"R", "a2|b1|", "X1", ""},
            {"H", "a2|b1|", "Y1", "H"}, {"H", "a2|b1|", "X1", ""}, {"F", "a1|c0|", "Y0", "F"}, {"F", "a1|c1|", "X0", ""},
            {"F", "a1|c50001|", "Ec", ""}, {"B", "b1|", "Y1", "B"}, {"B", "b1|", "X1", ""}, {"B", "b30|", "Eb", ""},
        };
        Desk desk = new Desk(bench);
        StringBuilder kinds = new StringBuilder();
        for (String[] message : messages) {
            desk.ask(message[0], message[1], message[2]);
            kinds.append(message[3]);
            bench.due("acts after " + message[0] + message[1], desk.wire.acts(), kinds.length());
        }
        for (int i = 0; i < kinds.length(); i++) {
            bench.due("the kind of act " + i, desk.wire.act(i, 1), kinds.charAt(i));
        }
    }

    private static void twentyRows(Bench bench) {
        bench.by("ROWS of a device: of when its line was down: up to 20");
        ExchangeWire x = new ExchangeWire();
        for (int i = 1; i <= 20; i++) {
            bench.due("row " + i, x.offline(0, 0, i, 1), i);
        }
        bench.due("row 21", x.offline(0, 0, 21, 1), -2);
        bench.due("row 21, a B", x.offline(0, 1, 1, 1), -2);
        bench.due("rows", x.state(0, 3), 20);
        bench.due("a row of another device", x.offline(1, 0, 21, 1), 1);
        bench.due("join", x.join(0), 20);
        bench.due("rows that are left", x.state(0, 3), 0);
        bench.due("rows of the other device", x.state(1, 3), 1);
        bench.due("acts", x.acts(), 20);
        bench.due("join of none", x.join(0), 0);
        bench.due("a first row again", x.offline(0, 0, 22, 1), 1);
        bench.due("join of one", x.join(0), 1);
    }

    private static void rowsAreDoneInOrder(Bench bench) {
        bench.by("JOINED they are done in order as messages are (without sums and numbers), verdicts yes are ACTS");
        ExchangeWire x = new ExchangeWire();
        for (int person = 0; person < 10; person++) {
            x.offline(3, 0, 29, person);
            x.offline(3, 1, 29, 0);
        }
        bench.due("join", x.join(3), 20);
        for (int i = 0; i < 20; i++) {
            bench.due("the device of act " + i, x.act(i, 0), 3);
            bench.due("the kind of act " + i, x.act(i, 1), i % 2 == 0 ? 'C' : 'B');
            bench.due("the item of act " + i, x.act(i, 2), 29);
            bench.due("the person of act " + i, x.act(i, 3), i / 2);
            bench.due("the number of act " + i, x.act(i, 4), -1);
        }
        bench.due("no more acts", x.acts(), 20);
    }

    private static void rowsHaveTheVerdictsOfMessages(Bench bench) {
        bench.by("JOINED they are done in order as messages are (without sums and numbers)");
        Desk desk = new Desk(bench);
        desk.wire.owes(0, 501);
        desk.wire.owes(1, 500);
        desk.wire.offline(2, 1, 7, 1);
        desk.wire.offline(2, 0, 7, 0);
        bench.due("nothing lent, and 501 owed", desk.wire.join(2), 0);
        desk.wire.offline(2, 0, 7, 1);
        desk.wire.offline(2, 0, 7, 2);
        bench.due("500 owed, and lent already", desk.wire.join(2), 1);
        desk.tell("H", "a3|b7|");
        desk.tell("H", "a4|b7|");
        desk.wire.offline(2, 1, 7, 1);
        desk.wire.offline(2, 0, 7, 5);
        desk.wire.offline(2, 0, 7, 4);
        desk.wire.offline(2, 0, 7, 3);
        bench.due("brought back, and lent to the first", desk.wire.join(2), 2);
        bench.due("who waits still", desk.wire.waits(7, 0), 4);
        bench.due("nobody behind", desk.wire.waits(7, 1), -1);
        desk.ask("I", "b7|", "Y4");
        bench.due("acts", desk.wire.acts(), 5);
    }
}
