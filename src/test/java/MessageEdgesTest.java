import java.util.Map;
import java.util.TreeMap;

/** Terms: the edges of what a message, a field, a sum and a line are. */
public final class MessageEdgesTest {
    private static final String WRONG = "NZ4E";

    public static void main(String[] args) {
        Bench bench = new Bench();
        kinds(bench);
        numberIsADigit(bench);
        lettersOfFields(bench);
        digitsOfFields(bench);
        signsThatAreNearlyDigits(bench);
        barOfFields(bench);
        fieldsInTheirOrder(bench);
        signBeforeTheSum(bench);
        twoSignsOfTheSum(bench);
        sumModulo256(bench);
        sumDigits(bench);
        sumIsOfAllSignsBeforeZ(bench);
        messageThatEndsTooSoon(bench);
        thirteenEndsAMessage(bench);
        sixtySigns(bench);
        sixtyBeforeEach13(bench);
        brokenTakesNothing(bench);
        bench.end();
    }

    private static ExchangeWire signedOn() {
        ExchangeWire x = new ExchangeWire();
        Bench.type(x, 0, Bench.sealed("S0") + "\r");
        return x;
    }

    /** A message on a line that is signed on, with its right sum; the answer is due without its sum. */
    private static void good(Bench bench, String body, String want) {
        bench.due(body, Bench.send(signedOn(), 0, body), Bench.sealed(want));
    }

    /** As it stands, or with the sum that would be right: it is wrong. */
    private static void bad(Bench bench, String body) {
        badAsItStands(bench, Bench.sealed(body));
    }

    private static void badAsItStands(Bench bench, String signs) {
        ExchangeWire x = signedOn();
        bench.due(signs, Bench.sendRaw(x, 0, signs), WRONG);
        bench.due("wrong ones after " + signs, x.state(0, 4), 1);
        bench.due("the number after " + signs, x.state(0, 0), 0);
    }

    /** Every sign but the nine kinds' begins no message, whatever fields follow. */
    private static void kinds(Bench bench) {
        bench.by("KINDS and their FIELDS");
        String[] fields = {"", "a1|b1|", "b1|", "a1|", "a1|c1|"};
        for (int sign = 0; sign < 256; sign++) {
            if ("SCBPIFHRQ\r".indexOf(sign) < 0) {
                for (String rest : fields) {
                    bad(bench, (char) sign + "1" + rest);
                }
            }
        }
    }

    private static void numberIsADigit(Bench bench) {
        bench.by("a KIND, a digit (its NUMBER)");
        good(bench, "P0a1|", "Y0S0");
        good(bench, "P1a1|", "Y0P1");
        good(bench, "P9a1|", "Y0P9");
        ExchangeWire x = new ExchangeWire();
        bench.dueVerdict(x, 0, "S0", "Y0S0");
        bench.due("number 0", x.state(0, 0), 0);
        for (int sign = 0; sign < 256; sign++) {
            if ("0123456789\r".indexOf(sign) < 0) {
                bad(bench, "S" + (char) sign);
                bad(bench, "P" + (char) sign + "a1|");
            }
        }
        bad(bench, "S");
        bad(bench, "S10");
        bad(bench, "Pa1|");
        bad(bench, "P10a1|");
    }

    private static void lettersOfFields(Bench bench) {
        bench.by("A FIELD is a letter, 1 to 5 digits, and |.");
        for (int sign = 0; sign < 256; sign++) {
            if (sign != 13 && sign != 'a') {
                bad(bench, "P1" + (char) sign + "1|");
            }
            if (sign != 13 && sign != 'b') {
                bad(bench, "I1" + (char) sign + "1|");
                bad(bench, "C1a1|" + (char) sign + "1|");
            }
            if (sign != 13 && sign != 'c') {
                bad(bench, "F1a1|" + (char) sign + "1|");
            }
        }
        bad(bench, "P11|");
        bad(bench, "P1aa1|");
    }

    private static void digitsOfFields(Bench bench) {
        bench.by("A FIELD is a letter, 1 to 5 digits, and |.");
        String[] digits = {"", "1", "01", "001", "0001", "00001", "000001"};
        for (int count = 0; count < digits.length; count++) {
            String some = digits[count] + "|";
            String[][] rows = {
                {"P1a" + some, "Y0P1"}, {"I1b" + some, "Y0I1"}, {"B1b" + some, "X0B1"}, {"F1a" + some + "c0|", "Y0F1"},
                {"F1a1|c" + some, "X0F1"}, {"C1a" + some + "b1|", "Y1C1"}, {"C1a1|b" + some, "Y1C1"},
                {"H1a" + some + "b1|", "X0H1"}, {"H1a1|b" + some, "X0H1"}, {"R1a" + some + "b1|", "X0R1"},
                {"R1a1|b" + some, "X0R1"},
            };
            for (String[] row : rows) {
                if (count >= 1 && count <= 5) {
                    good(bench, row[0], row[1]);
                } else {
                    bad(bench, row[0]);
                }
            }
        }
        good(bench, "P1a99999|", "EaP1");
        bad(bench, "P1a100000|");
        bad(bench, "P1a999999|");
        bad(bench, "P1a1|1|");
    }

    private static void signsThatAreNearlyDigits(Bench bench) {
        bench.by("A FIELD is a letter, 1 to 5 digits, and |.");
        good(bench, "P1a0|", "Y0P1");
        good(bench, "P1a9|", "Y0P1");
        for (int sign = 0; sign < 256; sign++) {
            if ("0123456789|\r".indexOf(sign) < 0) {
                bad(bench, "P1a" + (char) sign + "|");
                bad(bench, "P1a1" + (char) sign + "|");
                bad(bench, "P1a" + (char) sign + "1|");
                bad(bench, "P1a00001" + (char) sign + "|");
            }
        }
    }

    private static void barOfFields(Bench bench) {
        bench.by("A FIELD is a letter, 1 to 5 digits, and |.");
        for (int sign = 0; sign < 256; sign++) {
            if (sign != 13 && sign != '|') {
                bad(bench, "P1a1" + (char) sign);
                bad(bench, "P1a00001" + (char) sign);
                bad(bench, "C1a1" + (char) sign + "b1|");
                bad(bench, "C1a1|b1" + (char) sign);
            }
        }
        bad(bench, "P1a1");
        bad(bench, "P1a00001");
        bad(bench, "P1a1||");
        bad(bench, "P1|a1|");
    }

    private static void fieldsInTheirOrder(Bench bench) {
        bench.by("KINDS and their FIELDS, in this order");
        String[][] due = {
            {"S", ""}, {"C", "ab"}, {"B", "b"}, {"P", "a"}, {"I", "b"}, {"F", "ac"}, {"H", "ab"}, {"R", "ab"}, {"Q", ""},
        };
        String[] all = {"", "a", "b", "c", "aa", "ab", "ac", "ba", "bb", "bc", "ca", "cb", "cc", "aab", "aba", "abb",
            "abc", "acb", "bab", "aac", "aca", "acc", "abab"};
        for (String[] kind : due) {
            for (String letters : all) {
                String body = kind[0] + "1" + letters.replaceAll("(.)", "$11|");
                if (letters.equals(kind[1])) {
                    ExchangeWire x = signedOn();
                    Bench.send(x, 0, body);
                    bench.due("wrong ones after " + body, x.state(0, 4), 0);
                } else {
                    bad(bench, body);
                }
            }
        }
    }

    private static void signBeforeTheSum(Bench bench) {
        bench.by("FIELDS, Z, two signs (the SUM)");
        for (int sign = 0; sign < 256; sign++) {
            if (sign != 13 && sign != 'Z') {
                badAsItStands(bench, "S1" + (char) sign + "84");
                badAsItStands(bench, "P1a1|" + (char) sign + "8F");
            }
        }
        badAsItStands(bench, "S184");
        badAsItStands(bench, "S1ZZ84");
    }

    private static void twoSignsOfTheSum(Bench bench) {
        bench.by("FIELDS, Z, two signs (the SUM)");
        bench.due("two", Bench.sendRaw(signedOn(), 0, "S1Z84"), Bench.sealed("Y0S1"));
        badAsItStands(bench, "S1Z");
        badAsItStands(bench, "S1Z8");
        badAsItStands(bench, "S1Z4");
        badAsItStands(bench, "S1Z844");
        badAsItStands(bench, "S1Z084");
        badAsItStands(bench, "S1Z84Z84");
        badAsItStands(bench, "S1Z84\n");
    }

    /** A message of each sum: its digits are counted up one by one, for six to ten digits. */
    private static Map<Integer, String> bodiesBySum() {
        Map<Integer, String> bodies = new TreeMap<>();
        for (int count = 6; count <= 10; count++) {
            int[] digits = new int[count];
            for (int step = 0; step <= 9 * count; step++) {
                StringBuilder body = new StringBuilder("F1a");
                for (int i = 0; i < count; i++) {
                    body.append(i == 5 ? "|c" : "").append(digits[i]);
                }
                body.append('|');
                bodies.putIfAbsent(body.chars().sum() % 256, body.toString());
                digits[step % count] += step < 9 * count ? 1 : 0;
            }
        }
        return bodies;
    }

    /** One message of each sum; 255 and 0 are the two sides of the wrap. */
    private static void sumModulo256(Bench bench) {
        bench.by("The SUM is that of all signs before Z, modulo 256");
        Map<Integer, String> bodies = bodiesBySum();
        bench.due("sums that messages have", bodies.size(), 256);
        for (Map.Entry<Integer, String> entry : bodies.entrySet()) {
            int sum = entry.getKey();
            String start = entry.getValue() + "Z";
            ExchangeWire x = signedOn();
            Bench.sendRaw(x, 0, start + String.format("%02X", sum));
            bench.due("wrong ones after " + start, x.state(0, 4), 0);
            badAsItStands(bench, start + String.format("%02X", (sum + 1) % 256));
            badAsItStands(bench, start + String.format("%02X", (sum + 255) % 256));
        }
        // 256 itself does not stand in two signs, and is no other form of 0.
        badAsItStands(bench, bodies.get(0) + "Z100");
        badAsItStands(bench, bodies.get(0) + "ZG0");
        badAsItStands(bench, bodies.get(0) + "Z0");
    }

    private static void sumDigits(Bench bench) {
        bench.by("as two of 0 .. 9, A .. F, the higher first");
        int[] sums = {0x09, 0x0A, 0x0F, 0x90, 0x9F, 0xA0, 0xA9, 0xF0, 0xFA, 0xFF};
        Map<Integer, String> bodies = bodiesBySum();
        for (int sum : sums) {
            String digits = String.format("%02X", sum);
            ExchangeWire x = signedOn();
            Bench.sendRaw(x, 0, bodies.get(sum) + "Z" + digits);
            bench.due("wrong ones with the sum " + digits, x.state(0, 4), 0);
            String turned = new StringBuilder(digits).reverse().toString();
            if (!turned.equals(digits)) {
                badAsItStands(bench, bodies.get(sum) + "Z" + turned);
            }
            String small = digits.toLowerCase();
            if (!small.equals(digits)) {
                badAsItStands(bench, bodies.get(sum) + "Z" + small);
            }
            // What counting on from 9, or back from A, would come to.
            badAsItStands(bench, bodies.get(sum) + "Z" + digits.replace('A', ':').replace('9', '@').replace('F', '?')
                .replace('0', '/'));
        }
    }

    private static void sumIsOfAllSignsBeforeZ(Bench bench) {
        bench.by("The SUM is that of all signs before Z");
        bench.due("P1a1|", Bench.sendRaw(signedOn(), 0, "P1a1|Z8F"), Bench.sealed("Y0P1"));
        int whole = "P1a1|".chars().sum();
        int[] others = {whole + 'Z', whole - 'P', whole - '1', whole - 'a', whole - '|', whole + 13};
        for (int other : others) {
            badAsItStands(bench, String.format("P1a1|Z%02X", other % 256));
        }
    }

    private static void messageThatEndsTooSoon(Bench bench) {
        bench.by("N if it is WRONG: not made as told");
        String whole = Bench.sealed("C1a2|b3|");
        for (int length = 0; length < whole.length(); length++) {
            badAsItStands(bench, whole.substring(0, length));
        }
        bench.due("whole", Bench.sendRaw(signedOn(), 0, whole), Bench.sealed("Y1C1"));
    }

    private static void thirteenEndsAMessage(Bench bench) {
        bench.by("13 ends a message, which is answered at once");
        for (int sign = 0; sign < 256; sign++) {
            ExchangeWire x = new ExchangeWire();
            Bench.type(x, 0, Bench.sealed("S0"));
            bench.due("sign " + sign, x.octet(0, sign), sign == 13 ? 0 : 6);
            bench.due("the answer after " + sign, Bench.heard(x, 0), sign == 13 ? Bench.sealed("Y0S0") : "-");
        }
    }

    private static void sixtySigns(Bench bench) {
        bench.by("A line that has more than 60 signs before the next 13 is BROKEN");
        ExchangeWire x = new ExchangeWire();
        bench.due("59 signs", Bench.type(x, 0, "A".repeat(59)), 59);
        bench.due("the 60th", x.octet(0, 'A'), 60);
        bench.due("broken by 60", x.state(0, 2), 0);
        bench.due("13 behind 60", x.octet(0, 13), 0);
        bench.due("it is answered", Bench.heard(x, 0), WRONG);
        Bench.type(x, 0, "A".repeat(60));
        bench.due("the 61st", x.octet(0, 'A'), -2);
        bench.due("broken by 61", x.state(0, 2), 1);
    }

    private static void sixtyBeforeEach13(Bench bench) {
        bench.by("A line that has more than 60 signs before the next 13 is BROKEN");
        ExchangeWire x = new ExchangeWire();
        for (int i = 1; i <= 4; i++) {
            bench.due("60 signs", Bench.type(x, 0, "A".repeat(60)), 60);
            bench.due("13", x.octet(0, 13), 0);
            bench.due("wrong ones", x.state(0, 4), i);
        }
        bench.due("60 signs elsewhere", Bench.type(x, 1, "A".repeat(60)), 60);
        bench.due("a sign here", x.octet(0, 'A'), 1);
        bench.dueVerdict(x, 2, "S1", "Y0S1");
    }

    private static void brokenTakesNothing(Bench bench) {
        bench.by("it takes nothing any more, till it is RESET");
        ExchangeWire x = signedOn();
        Bench.type(x, 0, "A".repeat(61));
        bench.due("a sign", x.octet(0, 'A'), -2);
        bench.due("13", x.octet(0, 13), -2);
        bench.due("a sign behind 13", x.octet(0, 'A'), -2);
        bench.due("a message", Bench.type(x, 0, Bench.sealed("C1a1|b1|") + "\r"), -2);
        bench.due("the answer stays", Bench.heard(x, 0), Bench.sealed("Y0S0"));
        bench.due("none was wrong", x.state(0, 4), 0);
        bench.due("none was done", x.state(0, 0), 0);
        bench.due("no acts", x.acts(), 0);
        bench.due("still broken", x.state(0, 2), 1);
        bench.dueVerdict(x, 1, "S1", "Y0S1");
        x.reset(0);
        bench.due("not broken", x.state(0, 2), 0);
        bench.dueVerdict(x, 0, "S1", "Y0S1");
    }
}
