/** A new object with a line that is signed on; it numbers its messages, so that none repeats the one before. */
final class Desk {
    final ExchangeWire wire = new ExchangeWire();
    private final Bench bench;
    private int number = 0;

    Desk(Bench bench) {
        this.bench = bench;
        Bench.type(wire, 0, Bench.sealed("S0") + "\r");
    }

    /** Sends a message; the answer is due without its kind, number, sum and end. */
    void ask(String kind, String fields, String want) {
        countOn();
        bench.dueVerdict(wire, 0, kind + number + fields, want + kind + number);
    }

    /** Sends a message and leaves its answer alone: that keeps an object below its 512 calls. */
    void tell(String kind, String fields) {
        countOn();
        Bench.type(wire, 0, Bench.sealed(kind + number + fields) + "\r");
    }

    private void countOn() {
        number = (number + 1) % 10;
    }
}
