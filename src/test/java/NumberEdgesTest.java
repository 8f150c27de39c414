/** Terms: the first and the last device, person, item and debt that there is, and their neighbours. */
public final class NumberEdgesTest {
    private static final int[] NO_PERSONS_OR_ITEMS = {-1, 30};

    public static void main(String[] args) {
        Bench bench = new Bench();
        devicesThatThereAre(bench);
        devicesThatThereAreNot(bench);
        personsInCalls(bench);
        personsInMessages(bench);
        itemsInCalls(bench);
        itemsInMessages(bench);
        centsOwed(bench);
        lentToAPersonOrToNobody(bench);
        eachWaitsOnce(bench);
        fullRowOfWaiting(bench);
        bench.end();
    }

    private static void devicesThatThereAre(Bench bench) {
        bench.by("DEVICES are 0 .. 5.");
        for (int device : new int[] {0, 5}) {
            ExchangeWire x = new ExchangeWire();
            bench.due("octet on " + device, x.octet(device, 'S'), 1);
            bench.due("reset of " + device, x.reset(device), 1);
            bench.due("offline of " + device, x.offline(device, 0, 0, 0), 1);
            bench.due("state of " + device, x.state(device, 3), 1);
            bench.due("join of " + device, x.join(device), 1);
            bench.due("the act's device", x.act(0, 0), device);
            bench.dueVerdict(x, device, "S0", "Y0S0");
        }
    }

    private static void devicesThatThereAreNot(Bench bench) {
        bench.by("DEVICES are 0 .. 5.");
        ExchangeWire x = new ExchangeWire();
        for (int device : new int[] {-1, 6}) {
            bench.due("octet on " + device, x.octet(device, 'S'), -1);
            bench.due("an end on " + device, x.octet(device, 13), -1);
            bench.due("answer of " + device, Bench.sign(x, device, 0), Bench.THROWN);
            bench.due("reset of " + device, x.reset(device), -1);
            bench.due("offline of " + device, x.offline(device, 0, 0, 0), -1);
            bench.due("join of " + device, x.join(device), -1);
            for (int what = 0; what <= 4; what++) {
                bench.due("state " + what + " of " + device, x.state(device, what), -1);
            }
        }
    }

    private static void personsInCalls(Bench bench) {
        bench.by("PERSONS 0 .. 29");
        for (int person : new int[] {0, 29}) {
            ExchangeWire x = new ExchangeWire();
            bench.due("owes of " + person, x.owes(person, 7), 0);
            bench.due("owes of " + person + " again", x.owes(person, 8), 7);
            bench.due("row C of " + person, x.offline(0, 0, 4, person), 1);
            bench.due("row B of " + person, x.offline(0, 1, 4, person), 2);
            bench.due("join", x.join(0), 2);
            bench.due("the act's person", x.act(0, 3), person);
        }
        ExchangeWire x = new ExchangeWire();
        for (int person : NO_PERSONS_OR_ITEMS) {
            bench.due("owes of " + person, x.owes(person, 7), -1);
            bench.due("row C of " + person, x.offline(0, 0, 4, person), -1);
            bench.due("row B of " + person, x.offline(0, 1, 4, person), -1);
        }
    }

    private static void personsInMessages(Bench bench) {
        bench.by("PERSONS 0 .. 29");
        for (int person : new int[] {0, 29}) {
            Desk desk = new Desk(bench);
            desk.wire.owes(person, 3);
            desk.ask("P", "a" + person + "|", "Y3");
            desk.ask("F", "a" + person + "|c1|", "Y2");
            desk.ask("C", "a" + person + "|b4|", "Y1");
            desk.ask("R", "a" + person + "|b4|", "Y1");
            desk.tell("C", "a7|b5|");
            desk.ask("H", "a" + person + "|b5|", "Y1");
            bench.due("who waits", desk.wire.waits(5, 0), person);
        }
        Desk desk = new Desk(bench);
        desk.ask("P", "a30|", "Ea");
        desk.ask("F", "a30|c0|", "Ea");
        desk.ask("C", "a30|b4|", "Ea");
        desk.ask("R", "a30|b4|", "Ea");
        desk.ask("H", "a30|b4|", "Ea");
    }

    private static void itemsInCalls(Bench bench) {
        bench.by("ITEMS 0 .. 29");
        for (int item : new int[] {0, 29}) {
            Desk desk = new Desk(bench);
            bench.due("row C of " + item, desk.wire.offline(0, 0, item, 4), 1);
            bench.due("join", desk.wire.join(0), 1);
            bench.due("the act's item", desk.wire.act(0, 2), item);
            desk.tell("H", "a9|b" + item + "|");
            bench.due("waits for " + item, desk.wire.waits(item, 0), 9);
            bench.due("row B of " + item, desk.wire.offline(0, 1, item, 4), 1);
            bench.due("join", desk.wire.join(0), 1);
        }
        ExchangeWire x = new ExchangeWire();
        for (int item : NO_PERSONS_OR_ITEMS) {
            bench.due("row C of " + item, x.offline(0, 0, item, 4), -1);
            bench.due("row B of " + item, x.offline(0, 1, item, 4), -1);
            bench.due("waits for " + item, x.waits(item, 0), -1);
        }
    }

    private static void itemsInMessages(Bench bench) {
        bench.by("ITEMS 0 .. 29");
        for (int item : new int[] {0, 29}) {
            Desk desk = new Desk(bench);
            desk.ask("C", "a4|b" + item + "|", "Y1");
            desk.ask("R", "a4|b" + item + "|", "Y1");
            desk.ask("I", "b" + item + "|", "Y5");
            desk.ask("H", "a7|b" + item + "|", "Y1");
            desk.ask("B", "b" + item + "|", "Y1");
        }
        Desk desk = new Desk(bench);
        desk.ask("C", "a4|b30|", "Eb");
        desk.ask("R", "a4|b30|", "Eb");
        desk.ask("I", "b30|", "Eb");
        desk.ask("H", "a4|b30|", "Eb");
        desk.ask("B", "b30|", "Eb");
    }

    private static void centsOwed(Bench bench) {
        bench.by("A person OWES cents, 0 .. 100000");
        ExchangeWire x = new ExchangeWire();
        bench.due("100000 cents", x.owes(4, 100000), 0);
        bench.due("100001 cents", x.owes(4, 100001), -1);
        bench.due("-1 cents", x.owes(4, -1), -1);
        bench.due("0 cents", x.owes(4, 0), 100000);
        bench.due("1 cent", x.owes(4, 1), 0);
    }

    private static void lentToAPersonOrToNobody(Bench bench) {
        bench.by("an item is lent to a person, or to nobody");
        Desk desk = new Desk(bench);
        desk.ask("I", "b3|", "Y0");
        desk.tell("C", "a0|b3|");
        desk.ask("I", "b3|", "Y1");
        desk.tell("C", "a29|b3|");
        desk.ask("I", "b3|", "Y1");
        desk.tell("B", "b3|");
        desk.ask("I", "b3|", "Y0");
        desk.tell("C", "a29|b3|");
        desk.ask("I", "b3|", "Y30");
    }

    private static void eachWaitsOnce(Bench bench) {
        bench.by("has a ROW of persons who wait for it, each once");
        Desk desk = new Desk(bench);
        desk.tell("C", "a1|b3|");
        desk.tell("C", "a1|b4|");
        bench.due("an empty row", desk.wire.waits(3, 0), -1);
        desk.ask("H", "a0|b3|", "Y1");
        desk.ask("H", "a0|b3|", "X1");
        desk.ask("H", "a29|b3|", "Y2");
        desk.ask("H", "a29|b3|", "X2");
        desk.ask("H", "a0|b3|", "X2");
        desk.ask("H", "a0|b4|", "Y1");
        bench.due("the first", desk.wire.waits(3, 0), 0);
        bench.due("the second", desk.wire.waits(3, 1), 29);
        bench.due("no third", desk.wire.waits(3, 2), -1);
        bench.due("the other item's first", desk.wire.waits(4, 0), 0);
    }

    private static void fullRowOfWaiting(Bench bench) {
        bench.by("has a ROW of persons who wait for it, each once");
        Desk desk = new Desk(bench);
        desk.tell("C", "a9|b3|");
        for (int person = 0; person < 30; person++) {
            desk.tell("H", "a" + person + "|b3|");
        }
        desk.ask("H", "a9|b3|", "X29");
        desk.ask("H", "a29|b3|", "X29");
        bench.due("the last", desk.wire.waits(3, 28), 29);
        bench.due("nobody behind", desk.wire.waits(3, 29), -1);
        desk.ask("B", "b3|", "Y29");
        desk.ask("H", "a9|b3|", "X29");
        bench.due("acts", desk.wire.acts(), 31);
    }
}
