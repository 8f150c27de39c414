import java.util.function.ToIntFunction;

/** A call that is refused leaves all as it was: its object is looked at beside one that was not asked. */
public final class RefusedCallTest {
    private static final String AMID = "P4a29";
    private static final int[] NO_DEVICES = {-1, 6};
    private static final int[] NO_PERSONS_OR_ITEMS = {-1, 30};

    private final Bench bench = new Bench();
    private final String untouched = look(busy());

    public static void main(String[] args) {
        RefusedCallTest test = new RefusedCallTest();
        test.bench.due("two untouched objects", look(busy()), test.untouched);
        test.bench.due("the message amid", test.untouched.contains(Bench.sealed("Y100000P4")) ? 1 : 0, 1);
        test.devices();
        test.personsAndItems();
        test.fullRows();
        test.brokenLine();
        test.asking();
        test.bench.end();
    }

    /** Line 0 is amid a message, line 1 is broken, line 2 has had a wrong one; device 3 has 20 rows. */
    private static ExchangeWire busy() {
        ExchangeWire x = new ExchangeWire();
        x.owes(0, 17);
        x.owes(29, 100000);
        x.sum(300);
        for (String body : new String[] {"S1", "C2a3|b5|", "H3a29|b5|"}) {
            Bench.type(x, 0, Bench.sealed(body) + "\r");
        }
        Bench.type(x, 0, AMID);
        Bench.type(x, 1, Bench.sealed("S5") + "\r" + "1".repeat(61));
        Bench.type(x, 2, "\r");
        for (int i = 0; i < 20; i++) {
            x.offline(3, 0, 6 + i, 3);
        }
        return x;
    }

    /** All that an object tells; the calls that change it come last. */
    private static String look(ExchangeWire x) {
        StringBuilder seen = new StringBuilder();
        for (int device = 0; device < 6; device++) {
            seen.append(Bench.heard(x, device));
            for (int what = 0; what <= 4; what++) {
                seen.append(' ').append(x.state(device, what));
            }
        }
        for (int i = 0; i < 3 * 5; i++) {
            seen.append(' ').append(x.act(i / 5, i % 5));
        }
        seen.append(' ').append(x.waits(5, 1)).append(' ').append(x.sum(-1)).append(' ').append(x.acts());
        seen.append(' ').append(Bench.sendRaw(x, 0, Bench.sealed(AMID + "|").substring(AMID.length())));
        for (int i = 0; i < 30; i++) {
            seen.append(' ').append(x.waits(i, 0)).append(' ').append(x.owes(i, 0));
        }
        for (int device = 0; device < 6; device++) {
            seen.append(' ').append(x.reset(device)).append(' ').append(x.join(device));
        }
        return seen.append(' ').append(x.acts()).toString();
    }

    private void refused(String call, ToIntFunction<ExchangeWire> made, int want) {
        ExchangeWire x = busy();
        bench.due(call, made.applyAsInt(x), want);
        bench.due("what is told after " + call, look(x), untouched);
    }

    private void devices() {
        bench.by("NONE if there is no such device");
        for (int device : NO_DEVICES) {
            refused("octet(" + device + ", 65)", x -> x.octet(device, 65), -1);
            refused("octet(" + device + ", 13)", x -> x.octet(device, 13), -1);
            refused("answer(" + device + ", 0)", x -> Bench.sign(x, device, 0), Bench.THROWN);
            refused("reset(" + device + ")", x -> x.reset(device), -1);
            refused("offline(" + device + ", 0, 1, 1)", x -> x.offline(device, 0, 1, 1), -1);
            refused("join(" + device + ")", x -> x.join(device), -1);
            refused("state(" + device + ", 0)", x -> x.state(device, 0), -1);
        }
    }

    private void personsAndItems() {
        bench.by("NONE if a number is none such");
        for (int no : NO_PERSONS_OR_ITEMS) {
            refused("owes(" + no + ", 5)", x -> x.owes(no, 5), -1);
            refused("offline(0, 0, " + no + ", 1)", x -> x.offline(0, 0, no, 1), -1);
            refused("offline(0, 0, 1, " + no + ")", x -> x.offline(0, 0, 1, no), -1);
            refused("offline(0, " + no + ", 1, 1)", x -> x.offline(0, no, 1, 1), -1);
            refused("waits(" + no + ", 0)", x -> x.waits(no, 0), -1);
        }
        refused("offline(0, 2, 1, 1)", x -> x.offline(0, 2, 1, 1), -1);
        refused("owes(0, -1)", x -> x.owes(0, -1), -1);
        refused("owes(0, 100001)", x -> x.owes(0, 100001), -1);
    }

    private void fullRows() {
        bench.by("-2 if there are 20");
        refused("offline(3, 0, 29, 1)", x -> x.offline(3, 0, 29, 1), -2);
        refused("offline(3, 1, 6, 1)", x -> x.offline(3, 1, 6, 1), -2);
    }

    private void brokenLine() {
        bench.by("it takes nothing any more, till it is RESET");
        refused("octet(1, 65)", x -> x.octet(1, 65), -2);
        refused("octet(1, 13)", x -> x.octet(1, 13), -2);
        refused("a message on 1", x -> Bench.type(x, 1, Bench.sealed("S6") + "\r"), -2);
    }

    private void asking() {
        bench.by("Nothing is promised beyond the answers and state changes described above");
        refused("answer(0, -1)", x -> Bench.sign(x, 0, -1), Bench.THROWN);
        refused("answer(0, 99)", x -> Bench.sign(x, 0, 99), Bench.THROWN);
        refused("answer(5, 0)", x -> Bench.sign(x, 5, 0), Bench.THROWN);
        refused("act(2, 0)", x -> x.act(2, 0), -1);
        refused("act(0, 5)", x -> x.act(0, 5), -1);
        refused("state(0, 5)", x -> x.state(0, 5), -1);
        refused("waits(5, 1)", x -> x.waits(5, 1), -1);
        refused("join of no rows", x -> x.join(0), 0);
        refused("sum(0)", x -> x.sum(0), 44);
        refused("acts()", ExchangeWire::acts, 2);
    }
}
