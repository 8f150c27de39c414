/** Promises 1 to 12: the edges that each call's own sentence names. */
public final class CallEdgesTest {
    private static final int LOWEST = Integer.MIN_VALUE;
    private static final int HIGHEST = Integer.MAX_VALUE;

    public static void main(String[] args) {
        Bench bench = new Bench();
        newObject(bench);
        octetTakesTheLowestEightBits(bench);
        octetCountsSigns(bench);
        octetBreaksALine(bench);
        answerFromTheFirstSignToTheLast(bench);
        answerOfTheMessageThatEndedLatest(bench);
        resetCountsSigns(bench);
        resetForgets(bench);
        offlineKinds(bench);
        offlineWhenFull(bench);
        joinCountsYes(bench);
        owesTellsWhatItWas(bench);
        actsCount(bench);
        actFromTheFirstToTheLast(bench);
        actWhat(bench);
        firstThousandActs(bench);
        sumWrapsAround(bench);
        sumBelowZero(bench);
        stateWhat(bench);
        stateWrongSinceTheLastReset(bench);
        waitsFromTheFirstToTheLast(bench);
        call512(bench);
        bench.end();
    }

    private static void newObject(Bench bench) {
        bench.by("No messages; nobody OWES, nothing is lent, nobody waits.");
        for (int i : new int[] {0, 29}) {
            ExchangeWire x = new ExchangeWire();
            bench.due("waits", x.waits(i, 0), -1);
            bench.due("owes", x.owes(i, 0), 0);
            bench.due("acts", x.acts(), 0);
            bench.dueVerdict(x, 0, "S0", "Y0S0");
            bench.dueVerdict(x, 0, "I1b" + i + "|", "Y0I1");
            bench.dueVerdict(x, 0, "B2b" + i + "|", "X0B2");
        }
        ExchangeWire x = new ExchangeWire();
        for (int device = 0; device <= 5; device++) {
            bench.due("answer", Bench.sign(x, device, 0), Bench.THROWN);
            bench.due("number", x.state(device, 0), -1);
            bench.due("signs", x.reset(device), 0);
            bench.due("rows", x.join(device), 0);
        }
    }

    private static void octetTakesTheLowestEightBits(Bench bench) {
        bench.by("A sign (the lowest eight bits)");
        int[] ends = {13, 13 + 256, 13 - 256, 13 + 65536, HIGHEST - 255 + 13, LOWEST + 13};
        for (int end : ends) {
            ExchangeWire x = new ExchangeWire();
            Bench.type(x, 0, Bench.sealed("S1"));
            bench.due("octet(0, " + end + ")", x.octet(0, end), 0);
            bench.due("the answer", Bench.heard(x, 0), Bench.sealed("Y0S1"));
        }
        int[] others = {0, 255, 256, -1, -256, 13 + 128, 13 + 64, HIGHEST, LOWEST, 12 + 256, 14 - 256};
        ExchangeWire x = new ExchangeWire();
        for (int i = 0; i < others.length; i++) {
            bench.due("octet(0, " + others[i] + ")", x.octet(0, others[i]), i + 1);
        }
        for (int far : new int[] {256, -256, LOWEST}) {
            ExchangeWire y = new ExchangeWire();
            for (char sign : (Bench.sealed("S1") + "\r").toCharArray()) {
                y.octet(0, sign + far);
            }
            bench.due("a message, each sign + " + far, Bench.heard(y, 0), Bench.sealed("Y0S1"));
        }
        // The eighth bit is one of a sign: S with it is another sign, though the sum fits.
        String high = Bench.sealed((char) ('S' + 128) + "1");
        bench.due("S + 128", Bench.sendRaw(new ExchangeWire(), 0, high), "NZ4E");
    }

    private static void octetCountsSigns(Bench bench) {
        bench.by("how many signs of its message it has now (0 if a message ended)");
        ExchangeWire x = new ExchangeWire();
        bench.due("an end alone", x.octet(0, 13), 0);
        for (int i = 1; i <= 60; i++) {
            bench.due("sign " + i, x.octet(0, 0), i);
        }
        bench.due("an end behind 60", x.octet(0, 13), 0);
        bench.due("the first again", x.octet(0, 255), 1);
        bench.due("the first of another line", x.octet(5, 255), 1);
    }

    private static void octetBreaksALine(Bench bench) {
        bench.by("-2 if the line is BROKEN (by this sign, too)");
        ExchangeWire x = new ExchangeWire();
        bench.due("the 60th", Bench.type(x, 5, "1".repeat(60)), 60);
        bench.due("the 61st", x.octet(5, '1'), -2);
        bench.due("the 62nd", x.octet(5, '1'), -2);
        bench.due("an end", x.octet(5, 13), -2);
        bench.due("another end", x.octet(5, 13), -2);
        bench.due("no such device", x.octet(6, '1'), -1);
        bench.due("another line", x.octet(4, '1'), 1);
    }

    private static void sides(Bench bench, ExchangeWire x, int device, int length) {
        bench.due("the sign before the first", Bench.sign(x, device, -1), Bench.THROWN);
        bench.due("the last sign", Bench.sign(x, device, length - 1), 13);
        bench.due("the sign behind the last", Bench.sign(x, device, length), Bench.THROWN);
        bench.due("the lowest", Bench.sign(x, device, LOWEST), Bench.THROWN);
        bench.due("the highest", Bench.sign(x, device, HIGHEST), Bench.THROWN);
    }

    private static void answerFromTheFirstSignToTheLast(Bench bench) {
        bench.by("ArrayIndexOutOfBoundsException if there is none such, or no such device.");
        ExchangeWire x = new ExchangeWire();
        bench.due("no answer", Bench.sign(x, 0, 0), Bench.THROWN);
        // From the longest answer to the shortest: what is left of a longer one is no sign of a shorter one.
        x.owes(1, 100000);
        Bench.send(x, 0, "S0");
        Bench.send(x, 0, "P1a1|");
        bench.due("the first of Y100000P1", Bench.sign(x, 0, 0), 'Y');
        sides(bench, x, 0, "Y100000P1Z00\r".length());
        Bench.send(x, 0, "P2a30|");
        bench.due("the first of EaP2", Bench.sign(x, 0, 0), 'E');
        sides(bench, x, 0, "EaP2Z00\r".length());
        Bench.send(x, 1, "P1a30|");
        bench.due("the first of XP1", Bench.sign(x, 1, 0), 'X');
        sides(bench, x, 1, "XP1Z00\r".length());
        Bench.sendRaw(x, 0, "");
        bench.due("the first of N", Bench.sign(x, 0, 0), 'N');
        sides(bench, x, 0, "NZ4E\r".length());
        for (int device : new int[] {-1, 6, LOWEST, HIGHEST}) {
            bench.due("device " + device, Bench.sign(x, device, 0), Bench.THROWN);
        }
    }

    private static void answerOfTheMessageThatEndedLatest(Bench bench) {
        bench.by("of the answer of a device's line to the message that ended latest");
        ExchangeWire x = new ExchangeWire();
        bench.dueVerdict(x, 0, "S1", "Y0S1");
        Bench.type(x, 0, "P2a1");
        bench.due("while a message comes", Bench.heard(x, 0), Bench.sealed("Y0S1"));
        Bench.sendRaw(x, 1, "");
        bench.due("after one of another line", Bench.heard(x, 0), Bench.sealed("Y0S1"));
        x.octet(0, 13);
        bench.due("after a wrong one", Bench.heard(x, 0), "NZ4E");
        bench.dueVerdict(x, 0, "Q3", "Y0S1");
        x.offline(0, 0, 1, 1);
        x.join(0);
        bench.due("after joined rows", Bench.heard(x, 0), Bench.sealed("Y0S1"));
    }

    private static void resetCountsSigns(Bench bench) {
        bench.by("how many signs were taken away; NONE.");
        ExchangeWire x = new ExchangeWire();
        bench.due("no signs", x.reset(0), 0);
        x.octet(0, 'S');
        bench.due("one sign", x.reset(0), 1);
        bench.due("no signs again", x.reset(0), 0);
        Bench.type(x, 0, "1".repeat(60));
        bench.due("60 signs", x.reset(0), 60);
        Bench.type(x, 0, "S1\r");
        bench.due("an ended message", x.reset(0), 0);
        Bench.type(x, 0, "1".repeat(61));
        bench.due("a broken line", x.reset(0), 61);
        Bench.type(x, 0, "1".repeat(90) + "\r");
        bench.due("a broken line that took no more", x.reset(0), 61);
        for (int device : new int[] {-1, 6, LOWEST, HIGHEST}) {
            bench.due("device " + device, x.reset(device), -1);
        }
    }

    private static void resetForgets(Bench bench) {
        bench.by("no signs of a message, not BROKEN, no S was done, no message was done, no latest answer");
        ExchangeWire x = new ExchangeWire();
        Bench.send(x, 5, "S1");
        Bench.sendRaw(x, 5, "");
        Bench.type(x, 5, "1".repeat(61));
        x.offline(5, 0, 1, 1);
        x.reset(5);
        bench.due("the number", x.state(5, 0), -1);
        bench.due("S", x.state(5, 1), 0);
        bench.due("broken", x.state(5, 2), 0);
        bench.due("rows are no signs", x.state(5, 3), 1);
        bench.due("wrong ones", x.state(5, 4), 0);
        bench.due("answer() tells none", Bench.heard(x, 5), "-");
        bench.dueVerdict(x, 5, "Q1", "XQ1");
        bench.dueVerdict(x, 5, "P1a1|", "XP1");
        bench.due("60 signs", Bench.type(x, 5, "1".repeat(60)), 60);
        bench.due("61 signs", x.octet(5, '1'), -2);
    }

    private static void offlineKinds(Bench bench) {
        bench.by("of kind 0 C, 1 B: how many it has; NONE if a number is none such");
        ExchangeWire x = new ExchangeWire();
        for (int kind : new int[] {-1, 2, 'B', 'C', LOWEST, HIGHEST}) {
            bench.due("kind " + kind, x.offline(0, kind, 1, 1), -1);
        }
        for (int far : new int[] {LOWEST, -1, HIGHEST}) {
            bench.due("device " + far, x.offline(far, 0, 1, 1), -1);
            bench.due("item " + far, x.offline(0, 0, far, 1), -1);
            bench.due("person " + far, x.offline(0, 0, 1, far), -1);
        }
        bench.due("no rows", x.state(0, 3), 0);
        bench.due("kind 0", x.offline(0, 0, 1, 2), 1);
        bench.due("kind 1", x.offline(0, 1, 1, 2), 2);
        x.join(0);
        bench.due("kind 0 is C", x.act(0, 1), 'C');
        bench.due("kind 1 is B", x.act(1, 1), 'B');
    }

    private static void offlineWhenFull(Bench bench) {
        bench.by("NONE if a number is none such; -2 if there are 20");
        ExchangeWire x = new ExchangeWire();
        for (int i = 0; i < 19; i++) {
            x.offline(5, 0, i, 1);
        }
        bench.due("the 20th", x.offline(5, 0, 19, 1), 20);
        bench.due("the 21st", x.offline(5, 0, 20, 1), -2);
        bench.due("the 22nd", x.offline(5, 0, 20, 1), -2);
        bench.due("none such of 20", x.offline(5, 2, 20, 1), -1);
        bench.due("no such item of 20", x.offline(5, 0, 30, 1), -1);
        bench.due("no such person of 20", x.offline(5, 0, 20, 30), -1);
        bench.due("a reset line's rows", x.reset(5), 0);
        bench.due("the 21st after a reset", x.offline(5, 0, 20, 1), -2);
        bench.due("join", x.join(5), 20);
        bench.due("the first", x.offline(5, 0, 20, 1), 1);
        bench.due("join of the first", x.join(5), 1);
    }

    private static void joinCountsYes(Bench bench) {
        bench.by("A device's ROWS are JOINED: how many had the verdict yes; NONE.");
        ExchangeWire x = new ExchangeWire();
        bench.due("no rows", x.join(0), 0);
        x.offline(0, 1, 1, 1);
        bench.due("one row, and no", x.join(0), 0);
        bench.due("it is gone", x.state(0, 3), 0);
        x.offline(0, 0, 1, 1);
        x.offline(1, 0, 2, 1);
        bench.due("one row, and yes", x.join(0), 1);
        bench.due("the other's row stays", x.state(1, 3), 1);
        bench.due("join again", x.join(0), 0);
        for (int i = 0; i < 20; i++) {
            x.offline(0, 0, 10 + i / 2, 1);
        }
        bench.due("20 rows, ten yes", x.join(0), 10);
        for (int device : new int[] {-1, 6, LOWEST, HIGHEST}) {
            bench.due("device " + device, x.join(device), -1);
        }
    }

    private static void owesTellsWhatItWas(Bench bench) {
        bench.by("A person OWES so many cents: what it was; NONE for no such person, or cents.");
        ExchangeWire x = new ExchangeWire();
        for (int person : new int[] {0, 29}) {
            bench.due("at first", x.owes(person, 100000), 0);
            bench.due("too many", x.owes(person, 100001), -1);
            bench.due("too few", x.owes(person, -1), -1);
            bench.due("the highest", x.owes(person, HIGHEST), -1);
            bench.due("the lowest", x.owes(person, LOWEST), -1);
            bench.due("then", x.owes(person, 0), 100000);
            bench.due("at last", x.owes(person, 1), 0);
        }
        for (int person : new int[] {-1, 30, LOWEST, HIGHEST}) {
            bench.due("person " + person, x.owes(person, 0), -1);
        }
    }

    private static void actsCount(Bench bench) {
        bench.by("How many ACTS there were.");
        ExchangeWire x = new ExchangeWire();
        bench.due("at first", x.acts(), 0);
        x.offline(0, 0, 1, 1);
        bench.due("before a row is joined", x.acts(), 0);
        x.join(0);
        bench.due("one", x.acts(), 1);
        x.offline(0, 0, 1, 1);
        x.join(0);
        bench.due("a no is none", x.acts(), 1);
        x.reset(0);
        bench.due("a reset takes none away", x.acts(), 1);
    }

    private static void actFromTheFirstToTheLast(Bench bench) {
        bench.by("Of the i-th ACT, from 0 on");
        ExchangeWire x = new ExchangeWire();
        bench.due("none yet", x.act(0, 1), -1);
        x.offline(0, 0, 1, 1);
        x.join(0);
        bench.due("the first", x.act(0, 1), 'C');
        bench.due("the second", x.act(1, 1), -1);
        x.offline(0, 1, 1, 1);
        x.join(0);
        bench.due("the first still", x.act(0, 1), 'C');
        bench.due("the second now", x.act(1, 1), 'B');
        for (int i : new int[] {-1, 2, 999, 1000, LOWEST, HIGHEST}) {
            bench.due("act " + i, x.act(i, 1), -1);
        }
    }

    private static void actWhat(Bench bench) {
        bench.by("NONE for none such, or another what");
        ExchangeWire x = new ExchangeWire();
        x.owes(29, 5);
        Bench.type(x, 5, Bench.sealed("S0") + "\r");
        Bench.type(x, 5, Bench.sealed("C9a0|b29|") + "\r");
        Bench.type(x, 5, Bench.sealed("F0a29|c5|") + "\r");
        Bench.type(x, 5, Bench.sealed("B1b29|") + "\r");
        x.offline(0, 0, 0, 29);
        x.offline(0, 1, 0, 0);
        x.join(0);
        int[][] acts = {
            {5, 'C', 29, 0, 9}, {5, 'F', -1, 29, 0}, {5, 'B', 29, 0, 1}, {0, 'C', 0, 29, -1}, {0, 'B', 0, 29, -1},
        };
        for (int i = 0; i < acts.length; i++) {
            for (int what = 0; what <= 4; what++) {
                bench.due("act(" + i + ", " + what + ")", x.act(i, what), acts[i][what]);
            }
            for (int what : new int[] {-1, 5, LOWEST, HIGHEST}) {
                bench.due("act(" + i + ", " + what + ")", x.act(i, what), -1);
            }
        }
    }

    /**
     * An act takes a call, so that no object has its 1000th within its 512 calls; the class keeps to the sentence
     * all the same, so this test goes on behind the 512th call.
     */
    private static void firstThousandActs(Bench bench) {
        bench.by("(the first 1000 are told)");
        ExchangeWire x = new ExchangeWire();
        for (int i = 0; i < 1001; i++) {
            x.offline(i % 2, i % 2, 29, 11);
            x.join(i % 2);
        }
        bench.due("acts", x.acts(), 1001);
        for (int i : new int[] {0, 1, 998, 999}) {
            bench.due("the device of act " + i, x.act(i, 0), i % 2);
            bench.due("the kind of act " + i, x.act(i, 1), i % 2 == 0 ? 'C' : 'B');
            bench.due("the item of act " + i, x.act(i, 2), 29);
            bench.due("the person of act " + i, x.act(i, 3), 11);
            bench.due("the number of act " + i, x.act(i, 4), -1);
        }
        for (int what = 0; what <= 4; what++) {
            bench.due("act(1000, " + what + ")", x.act(1000, what), -1);
            bench.due("act(1001, " + what + ")", x.act(1001, what), -1);
        }
    }

    private static void sumWrapsAround(Bench bench) {
        bench.by("The SUM of signs told one after the other: this one is added");
        ExchangeWire x = new ExchangeWire();
        bench.due("sum(0)", x.sum(0), 0);
        bench.due("sum(255)", x.sum(255), 255);
        bench.due("sum(0) of 255", x.sum(0), 255);
        bench.due("sum(1) of 255", x.sum(1), 0);
        bench.due("sum(254)", x.sum(254), 254);
        bench.due("sum(1) of 254", x.sum(1), 255);
        bench.due("sum(2) of 255", x.sum(2), 1);
        bench.due("sum(256) of 1", x.sum(256), 1);
        bench.due("sum(highest) of 1", x.sum(HIGHEST), 0);
        bench.due("sum(highest) of 0", x.sum(HIGHEST), 255);
        bench.due("sum(highest) of 255", x.sum(HIGHEST), 254);
    }

    private static void sumBelowZero(Bench bench) {
        bench.by("below 0: the sum so far, and it is 0 again");
        ExchangeWire x = new ExchangeWire();
        for (int below : new int[] {-1, -2, -256, LOWEST}) {
            bench.due("nothing so far", x.sum(below), 0);
            bench.due("sum(0)", x.sum(0), 0);
            bench.due("sum(300)", x.sum(300), 44);
            bench.due("sum(" + below + ")", x.sum(below), 44);
            bench.due("sum(1)", x.sum(1), 1);
            bench.due("sum(" + below + ") again", x.sum(below), 1);
        }
    }

    private static void stateWhat(Bench bench) {
        bench.by("NONE for none such, or another what");
        ExchangeWire x = new ExchangeWire();
        for (int device : new int[] {0, 5}) {
            int[] atFirst = {-1, 0, 0, 0, 0};
            int[] then = {9, 1, 1, 20, 1};
            dueStates(bench, x, device, atFirst);
            Bench.type(x, device, Bench.sealed("S9") + "\r\r" + "1".repeat(61));
            for (int i = 0; i < 21; i++) {
                x.offline(device, 0, 1, 1);
            }
            dueStates(bench, x, device, then);
        }
        for (int device : new int[] {-1, 6, LOWEST, HIGHEST}) {
            for (int what = 0; what <= 4; what++) {
                bench.due("state(" + device + ", " + what + ")", x.state(device, what), -1);
            }
        }
    }

    private static void dueStates(Bench bench, ExchangeWire x, int device, int[] states) {
        for (int what = 0; what <= 4; what++) {
            bench.due("state(" + device + ", " + what + ")", x.state(device, what), states[what]);
        }
        for (int what : new int[] {-1, 5, LOWEST, HIGHEST}) {
            bench.due("state(" + device + ", " + what + ")", x.state(device, what), -1);
        }
    }

    private static void stateWrongSinceTheLastReset(Bench bench) {
        bench.by("4: how many messages were WRONG since the last RESET");
        ExchangeWire x = new ExchangeWire();
        for (int i = 1; i <= 20; i++) {
            x.octet(0, 13);
            bench.due("wrong ones", x.state(0, 4), i);
        }
        bench.dueVerdict(x, 0, "S1", "Y0S1");
        bench.dueVerdict(x, 0, "P2a30|", "EaP2");
        bench.dueVerdict(x, 0, "B3b1|", "X0B3");
        bench.due("E and X are not wrong", x.state(0, 4), 20);
        bench.due("another line", x.state(1, 4), 0);
        x.reset(1);
        bench.due("a reset of another line", x.state(0, 4), 20);
        x.reset(0);
        bench.due("a reset", x.state(0, 4), 0);
        x.octet(0, 13);
        bench.due("one since then", x.state(0, 4), 1);
    }

    private static void waitsFromTheFirstToTheLast(Bench bench) {
        bench.by("The i-th that waits for an item, from 0 on; NONE.");
        Desk desk = new Desk(bench);
        desk.tell("C", "a1|b29|");
        bench.due("nobody yet", desk.wire.waits(29, 0), -1);
        desk.tell("H", "a29|b29|");
        bench.due("the first", desk.wire.waits(29, 0), 29);
        bench.due("no second", desk.wire.waits(29, 1), -1);
        desk.tell("H", "a0|b29|");
        bench.due("the first still", desk.wire.waits(29, 0), 29);
        bench.due("the second", desk.wire.waits(29, 1), 0);
        for (int i : new int[] {-1, 2, 29, 30, LOWEST, HIGHEST}) {
            bench.due("waits(29, " + i + ")", desk.wire.waits(29, i), -1);
        }
        for (int item : new int[] {-1, 28, 30, LOWEST, HIGHEST}) {
            bench.due("waits(" + item + ", 0)", desk.wire.waits(item, 0), -1);
        }
        desk.tell("B", "b29|");
        bench.due("the first when it is back", desk.wire.waits(29, 0), 29);
        desk.tell("C", "a29|b29|");
        bench.due("the next", desk.wire.waits(29, 0), 0);
        bench.due("nobody behind", desk.wire.waits(29, 1), -1);
    }

    private static void call512(Bench bench) {
        bench.by("An object is used for at most 512 calls after it has been made");
        ExchangeWire x = new ExchangeWire();
        int calls = 0;
        while (calls < 508) {
            x.offline(0, calls / 2 % 2, 1, 1);
            bench.due("call " + (calls + 2), x.join(0), 1);
            calls += 2;
        }
        bench.due("call 509", x.acts(), 254);
        bench.due("call 510", x.act(253, 1), 'B');
        bench.due("call 511", x.act(254, 1), -1);
        bench.due("call 512", x.act(252, 1), 'C');
    }
}
