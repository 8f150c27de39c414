/** Promise 2. */
public final class OctetTest {
    public static void main(String[] args) {
        Bench bench = new Bench();
        noSuchDevice(bench);
        signsAreCounted(bench);
        onlyEightBitsCount(bench);
        sixtySignsAreNotTooMany(bench);
        sixtyOneBreakTheLine(bench);
        linesAreApart(bench);
        bench.end();
    }

    private static void noSuchDevice(Bench bench) {
        ExchangeWire x = new ExchangeWire();
        for (int device : Bench.NO_DEVICES) {
            bench.due("octet(" + device + ", 65)", x.octet(device, 65), -1);
            bench.due("octet(" + device + ", 13)", x.octet(device, 13), -1);
        }
    }

    private static void signsAreCounted(Bench bench) {
        ExchangeWire x = new ExchangeWire();
        bench.due("first", x.octet(5, 'S'), 1);
        bench.due("second", x.octet(5, '0'), 2);
        bench.due("end", x.octet(5, 13), 0);
        bench.due("an end alone", x.octet(5, 13), 0);
        bench.due("an end alone is wrong", x.state(5, 4), 2);
        bench.due("first again", x.octet(5, 0), 1);
        bench.due("10 is a sign as others", x.octet(5, 10), 2);
    }

    private static void onlyEightBitsCount(Bench bench) {
        ExchangeWire x = new ExchangeWire();
        String message = Bench.sealed("S4");
        for (int i = 0; i < message.length(); i++) {
            bench.due("sign " + i, x.octet(0, message.charAt(i) + 256 * (i + 1)), i + 1);
        }
        bench.due("13 - 256", x.octet(0, 13 - 256), 0);
        bench.due("answer", Bench.heard(x, 0), Bench.sealed("Y0S4"));
        bench.due("-1", x.octet(0, -1), 1);
        bench.due("13 + 256", x.octet(0, 13 + 256), 0);
        bench.due("13 + 128 is no end", x.octet(0, 13 + 128), 1);
        bench.due("the end", x.octet(0, 13), 0);
        bench.due("'S' + 128 is no S", Bench.sendRaw(x, 0, (char) ('S' + 128) + "5Z88"), "NZ4E");
        bench.due("lowest", x.octet(0, Integer.MIN_VALUE), 1);
        bench.due("highest", x.octet(0, Integer.MAX_VALUE), 2);
    }

    private static void sixtySignsAreNotTooMany(Bench bench) {
        ExchangeWire x = new ExchangeWire();
        for (int i = 1; i <= 60; i++) {
            bench.due("sign " + i, x.octet(0, 'A'), i);
        }
        bench.due("not broken", x.state(0, 2), 0);
        bench.due("end", x.octet(0, 13), 0);
        bench.due("answer", Bench.heard(x, 0), "NZ4E");
        bench.due("next", x.octet(0, 'A'), 1);
    }

    private static void sixtyOneBreakTheLine(Bench bench) {
        ExchangeWire x = new ExchangeWire();
        Bench.send(x, 0, "S7");
        bench.due("60 signs", Bench.type(x, 0, "1".repeat(60)), 60);
        bench.due("the 61st", x.octet(0, '1'), -2);
        bench.due("broken", x.state(0, 2), 1);
        bench.due("the 62nd", x.octet(0, '1'), -2);
        bench.due("an end", x.octet(0, 13), -2);
        bench.due("no message ended", x.state(0, 4), 0);
        bench.due("a message", Bench.sendRaw(x, 0, Bench.sealed("S8")), Bench.sealed("Y0S7"));
        bench.due("nothing was done", x.state(0, 0), 7);
        x.reset(0);
        bench.dueVerdict(x, 0, "S8", "Y0S8");
    }

    private static void linesAreApart(Bench bench) {
        ExchangeWire x = new ExchangeWire();
        for (int device = 0; device < 6; device++) {
            for (int i = 1; i <= device + 1; i++) {
                bench.due("sign " + i + " of " + device, x.octet(device, 'S'), i);
            }
        }
        bench.due("61 on 0", Bench.type(x, 0, "S".repeat(60)), -2);
        bench.due("1 is not broken", x.octet(1, 'S'), 3);
    }
}
