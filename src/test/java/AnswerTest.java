/** Promise 3, and what an answer is made of. */
public final class AnswerTest {
    public static void main(String[] args) {
        Bench bench = new Bench();
        noneSuch(bench);
        signsOfAnAnswer(bench);
        wrongIsShownAndNotKept(bench);
        latestAnswerOnceMore(bench);
        sameNumberOnceMore(bench);
        noSignOn(bench);
        longestAnswer(bench);
        bench.end();
    }

    private static void noneSuch(Bench bench) {
        ExchangeWire x = new ExchangeWire();
        for (int device : Bench.NO_DEVICES) {
            bench.due("answer of " + device, Bench.sign(x, device, 0), Bench.THROWN);
        }
        bench.due("no message", Bench.sign(x, 0, 0), Bench.THROWN);
        Bench.type(x, 0, Bench.sealed("S0"));
        bench.due("a message without its end", Bench.sign(x, 0, 0), Bench.THROWN);
        x.octet(0, 13);
        int[] noSigns = {-1, 8, Integer.MIN_VALUE, Integer.MAX_VALUE};
        for (int i : noSigns) {
            bench.due("sign " + i, Bench.sign(x, 0, i), Bench.THROWN);
        }
        bench.due("another line", Bench.sign(x, 1, 0), Bench.THROWN);
    }

    private static void signsOfAnAnswer(Bench bench) {
        ExchangeWire x = new ExchangeWire();
        Bench.send(x, 3, "S0");
        int[] signs = {'Y', '0', 'S', '0', 'Z', '0', 'C', 13};
        for (int i = 0; i < signs.length; i++) {
            bench.due("sign " + i, Bench.sign(x, 3, i), signs[i]);
        }
        x.octet(3, 'S');
        bench.due("while the next message comes", Bench.heard(x, 3), "Y0S0Z0C");
    }

    private static void wrongIsShownAndNotKept(Bench bench) {
        ExchangeWire x = new ExchangeWire();
        bench.due("no message", Bench.sendRaw(x, 0, ""), "NZ4E");
        bench.dueVerdict(x, 0, "Q5", "XQ5");
        bench.dueVerdict(x, 0, "S1", "Y0S1");
        bench.due("a wrong sum", Bench.sendRaw(x, 0, "S2Z84"), "NZ4E");
        bench.due("its number counts for nothing", x.state(0, 0), 1);
        bench.dueVerdict(x, 0, "Q5", "Y0S1");
        bench.dueVerdict(x, 0, "S2", "Y0S2");
    }

    private static void latestAnswerOnceMore(Bench bench) {
        ExchangeWire x = new ExchangeWire();
        bench.dueVerdict(x, 0, "Q1", "XQ1");
        bench.dueVerdict(x, 0, "Q2", "XQ2");
        bench.due("a Q is not done", x.state(0, 0), -1);
        bench.dueVerdict(x, 0, "S1", "Y0S1");
        bench.dueVerdict(x, 0, "C2a4|b6|", "Y1C2");
        bench.dueVerdict(x, 0, "Q2", "Y1C2");
        bench.dueVerdict(x, 0, "Q7", "Y1C2");
        bench.due("a Q's number does not count", x.state(0, 0), 2);
        bench.dueVerdict(x, 0, "P7a4|", "Y0P7");
        bench.dueVerdict(x, 1, "Q3", "XQ3");
        bench.due("done once", x.acts(), 1);
    }

    private static void sameNumberOnceMore(Bench bench) {
        ExchangeWire x = new ExchangeWire();
        Bench.send(x, 0, "S0");
        bench.dueVerdict(x, 0, "C1a4|b6|", "Y1C1");
        bench.dueVerdict(x, 0, "C1a4|b6|", "Y1C1");
        bench.dueVerdict(x, 0, "B1b6|", "Y1C1");
        bench.dueVerdict(x, 0, "S1", "Y1C1");
        bench.dueVerdict(x, 0, "P1a77|", "Y1C1");
        bench.due("a wrong one of that number", Bench.sendRaw(x, 0, "B1b6|Z00"), "NZ4E");
        bench.dueVerdict(x, 0, "B1b6|", "Y1C1");
        bench.due("done once", x.acts(), 1);
        bench.dueVerdict(x, 0, "I2b6|", "Y5I2");
        bench.dueVerdict(x, 0, "B1b6|", "Y0B1");
        Bench.send(x, 1, "S0");
        bench.dueVerdict(x, 1, "I1b6|", "Y0I1");
    }

    private static void noSignOn(Bench bench) {
        ExchangeWire x = new ExchangeWire();
        bench.dueVerdict(x, 0, "C1a4|b6|", "XC1");
        bench.due("it was done", x.state(0, 0), 1);
        bench.dueVerdict(x, 0, "S1", "XC1");
        bench.due("S was not done", x.state(0, 1), 0);
        bench.dueVerdict(x, 0, "Q9", "XC1");
        bench.dueVerdict(x, 0, "P2a99|", "XP2");
        bench.dueVerdict(x, 0, "S3", "Y0S3");
        bench.dueVerdict(x, 1, "P3a0|", "XP3");
        bench.dueVerdict(x, 0, "S4", "Y0S4");
        bench.due("no acts", x.acts(), 0);
    }

    private static void longestAnswer(Bench bench) {
        ExchangeWire x = new ExchangeWire();
        Bench.send(x, 0, "S0");
        int[] owed = {100000, 99999, 10000, 1000, 100, 10, 9, 0, 90909};
        for (int i = 0; i < owed.length; i++) {
            x.owes(29, owed[i]);
            bench.dueVerdict(x, 0, "P" + (i + 1) + "a29|", "Y" + owed[i] + "P" + (i + 1));
        }
    }
}
