/** Terms: what is a message, and what is WRONG; which FIELD an E names. */
public final class MessageFormTest {
    private static final String[] GOOD = {
        "S1", "C1a2|b3|", "B1b3|", "P1a2|", "I1b3|", "F1a2|c0|", "H1a2|b3|", "R1a2|b3|",
        "C1a00002|b00003|", "F1a2|c50000|",
    };
    private static final String[] BAD = {
        "", "S", "s1", "A1", "Sx", "S:", "S/", "1S", "S1a2|", "S12", "S1|", "S1 ", " S1",
        "C1", "C1a2|", "C1b3|", "C1b3|a2|", "C1a2|a3|", "C1a2|b3", "C1a2b3|", "C1a2|b3|c1|", "C1a2||b3|",
        "C1A2|B3|", "C1a|b3|", "C1a2|b|", "C1a123456|b3|", "C1a2|b000003|", "C1a-2|b3|", "C1a2x|b3|", "Ca2|b3|",
        "C1a2|b3|Z", "B1", "B1a3|", "B1b3|b3|", "B1b3||", "P1", "P1b2|", "P1a2|b3|", "P1a2", "P1a", "P1a|",
        "I1", "I1a3|", "F1a2|", "F1c5|a2|", "F1a2|b3|", "F1a2|c|", "F1a2|c100000|", "H1a2|", "R1b3|a2|", "Q", "Q1a2|",
        "C1a2/b3|", "C1a2:|b3|", "X1", "Z1", "N1", "D1a2|", "Y0S1",
    };

    public static void main(String[] args) {
        Bench bench = new Bench();
        goodAndBad(bench);
        wrongEnds(bench);
        everySum(bench);
        badFields(bench);
        bench.end();
    }

    private static ExchangeWire signedOn() {
        ExchangeWire x = new ExchangeWire();
        Bench.send(x, 0, "S0");
        return x;
    }

    private static void goodAndBad(Bench bench) {
        for (String body : GOOD) {
            ExchangeWire x = signedOn();
            Bench.send(x, 0, body);
            bench.due("wrong after " + body, x.state(0, 4), 0);
            bench.due("number after " + body, x.state(0, 0), 1);
        }
        for (String body : BAD) {
            ExchangeWire x = signedOn();
            bench.due(body, Bench.send(x, 0, body), "NZ4E");
            bench.due("wrong after " + body, x.state(0, 4), 1);
            bench.due("number after " + body, x.state(0, 0), 0);
            bench.due("acts after " + body, x.acts(), 0);
        }
    }

    private static void wrongEnds(Bench bench) {
        String[] messages = {
            "S2", "S285", "S2Z", "S2Z8", "S2Z58", "S2Z86", "S2Z95", "S2Z855", "S2Z 85", "S2ZZ85", "S2z85", "S2Z85 ",
            "S2Z85Z85", "S2Z085", "P2a3|Z96\n", "\nS2Z85", "P2a3|Z92Z", "Z", "ZZZZZ", "S2 85", "\u00ff\u00ffZFE",
        };
        for (String message : messages) {
            ExchangeWire x = signedOn();
            bench.due(message, Bench.sendRaw(x, 0, message), "NZ4E");
        }
        // The higher digits are capital letters alone.
        bench.due("capital", Bench.sendRaw(signedOn(), 0, "B6b5|Z8B"), Bench.sealed("X0B6"));
        bench.due("small", Bench.sendRaw(signedOn(), 0, "B6b5|Z8b"), "NZ4E");
    }

    private static void everySum(Bench bench) {
        String body = "C1a19|b28|";
        String right = Bench.sealed(body);
        for (int sum = 0; sum < 256; sum++) {
            String message = body + "Z" + String.format("%02X", sum);
            String want = message.equals(right) ? Bench.sealed("Y1C1") : "NZ4E";
            bench.due(message, Bench.sendRaw(signedOn(), 0, message), want);
        }
    }

    private static void badFields(Bench bench) {
        String[][] rows = {
            {"C1a30|b30|", "EaC1"}, {"C1a30|b0|", "EaC1"}, {"C1a29|b30|", "EbC1"}, {"C1a29|b29|", "Y1C1"},
            {"C1a0|b0|", "Y1C1"}, {"C1a99999|b1|", "EaC1"}, {"B1b30|", "EbB1"}, {"B1b29|", "X0B1"},
            {"P1a30|", "EaP1"}, {"I1b30|", "EbI1"}, {"I1b99999|", "EbI1"}, {"H1a30|b1|", "EaH1"}, {"H1a1|b30|", "EbH1"},
            {"R1a30|b30|", "EaR1"}, {"R1a1|b30|", "EbR1"}, {"F1a30|c50001|", "EaF1"}, {"F1a1|c50001|", "EcF1"},
            {"F1a1|c50000|", "X0F1"}, {"F1a1|c99999|", "EcF1"}, {"F1a30|c1|", "EaF1"},
        };
        for (String[] row : rows) {
            ExchangeWire x = signedOn();
            bench.dueVerdict(x, 0, row[0], row[1]);
            bench.due("it is done: " + row[0], x.state(0, 0), 1);
            bench.due("it is not wrong: " + row[0], x.state(0, 4), 0);
            bench.dueVerdict(x, 0, "Q3", row[1]);
            bench.due("acts after " + row[0], x.acts(), row[1].startsWith("Y") ? 1 : 0);
        }
    }
}
