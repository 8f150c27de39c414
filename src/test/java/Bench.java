/** What the tests share: comparing answers, and sending messages to a line. */
final class Bench {
    /** Stands for "the call threw ArrayIndexOutOfBoundsException". */
    static final int THROWN = Integer.MIN_VALUE;
    static final int[] NO_DEVICES = {-1, 6, 7, Integer.MIN_VALUE, Integer.MAX_VALUE};

    private int calls = 0;
    private int wrong = 0;
    private String due = ", due is ";

    /** The document's words that ask for what is due from here on. */
    void by(String words) {
        due = ", due by \"" + words + "\" is ";
    }

    void due(String call, int got, int want) {
        calls++;
        if (got != want) {
            wrong++;
            System.out.println(call + " answered " + got + due + want);
        }
    }

    void due(String call, String got, String want) {
        calls++;
        if (!got.equals(want)) {
            wrong++;
            System.out.println(call + " answered " + got + due + want);
        }
    }

    /** Sends a message made of its signs before Z; the answer is due without its sum and end. */
    void dueVerdict(ExchangeWire x, int device, String body, String want) {
        due(body + " on " + device, send(x, device, body), sealed(want));
    }

    boolean hasWrong() {
        return wrong != 0;
    }

    void end() {
        System.out.println(calls + " answers looked at, " + wrong + " not as due");
        if (wrong != 0 || calls == 0) {
            System.exit(1);
        }
    }

    static String send(ExchangeWire x, int device, String body) {
        return sendRaw(x, device, sealed(body));
    }

    static String sendRaw(ExchangeWire x, int device, String signs) {
        type(x, device, signs);
        x.octet(device, 13);
        return heard(x, device);
    }

    static int type(ExchangeWire x, int device, String signs) {
        int last = Integer.MIN_VALUE;
        for (char sign : signs.toCharArray()) {
            last = x.octet(device, sign);
        }
        return last;
    }

    static String sealed(String body) {
        int sum = body.chars().sum() % 256;
        return body + "Z" + String.format("%02X", sum);
    }

    /** The answer up to its sign 13; "-" if there is none; what is amiss with its end, if anything. */
    static String heard(ExchangeWire x, int device) {
        StringBuilder text = new StringBuilder();
        int i = 0;
        for (; i < 100; i++) {
            int sign = sign(x, device, i);
            if (sign == THROWN) {
                break;
            }
            text.append((char) sign);
        }
        if (i == 0) {
            return "-";
        }
        if (text.indexOf("\r") != text.length() - 1) {
            return text + " (ends not with its only 13)";
        }
        return text.substring(0, text.length() - 1);
    }

    static int sign(ExchangeWire x, int device, int i) {
        try {
            return x.answer(device, i);
        } catch (ArrayIndexOutOfBoundsException e) {
            return THROWN;
        }
    }
}
