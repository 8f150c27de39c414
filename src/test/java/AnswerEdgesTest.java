/** Terms: the edges of how a message is answered, up to the verdicts, and of what an answer is made of. */
public final class AnswerEdgesTest {
    private static final String WRONG = "NZ4E";

    public static void main(String[] args) {
        Bench bench = new Bench();
        wrongDoesNothingElse(bench);
        wrongComesFirst(bench);
        againWithoutAnAnswer(bench);
        againWithAnAnswer(bench);
        againComesBeforeTheNumber(bench);
        numberOfTheLatest(bench);
        numbersWrapAround(bench);
        numbersOfTheLineAlone(bench);
        numberComesBeforeTheSignOn(bench);
        notSignedOn(bench);
        signOnComesBeforeTheFields(bench);
        fieldsThatNameNothing(bench);
        firstFieldThatNamesNothing(bench);
        errorIsOfAMessageThatIsDone(bench);
        wrongAnswerStandsAlone(bench);
        sumsOfAnswers(bench);
        bench.end();
    }

    private static void wrongDoesNothingElse(Bench bench) {
        bench.by("(nothing else happens, its NUMBER counts for nothing)");
        ExchangeWire x = new ExchangeWire();
        bench.due("a wrong S", Bench.sendRaw(x, 0, "S1Z83"), WRONG);
        bench.due("S was done", x.state(0, 1), 0);
        bench.due("the number", x.state(0, 0), -1);
        bench.dueVerdict(x, 0, "S1", "Y0S1");
        bench.due("a wrong C", Bench.sendRaw(x, 0, "C2a1|b1|Z00"), WRONG);
        bench.due("the number stays", x.state(0, 0), 1);
        bench.due("acts", x.acts(), 0);
        bench.dueVerdict(x, 0, "C2a1|b1|", "Y1C2");
        bench.due("acts", x.acts(), 1);
        bench.due("wrong ones", x.state(0, 4), 2);
    }

    private static void wrongComesFirst(Bench bench) {
        bench.by("(the first of these)");
        ExchangeWire x = new ExchangeWire();
        bench.due("a wrong C before S", Bench.sendRaw(x, 0, "C1a1|b1|Z00"), WRONG);
        bench.due("a wrong Q before all", Bench.sendRaw(x, 0, "Q1Z00"), WRONG);
        bench.dueVerdict(x, 0, "S1", "Y0S1");
        bench.due("a wrong one of the latest number", Bench.sendRaw(x, 0, "S1Z00"), WRONG);
        bench.due("a wrong Q", Bench.sendRaw(x, 0, "Q2Z00"), WRONG);
        bench.due("a wrong one with a field that names nothing", Bench.sendRaw(x, 0, "P2a30|Z00"), WRONG);
        bench.due("wrong ones", x.state(0, 4), 5);
    }

    private static void againWithoutAnAnswer(Bench bench) {
        bench.by("(X if there was none; an N is not kept as the latest answer, nor is that X)");
        ExchangeWire x = new ExchangeWire();
        bench.dueVerdict(x, 0, "Q0", "XQ0");
        bench.dueVerdict(x, 0, "Q9", "XQ9");
        bench.due("a wrong one", Bench.sendRaw(x, 0, "S1"), WRONG);
        bench.dueVerdict(x, 0, "Q1", "XQ1");
        bench.due("a Q is not done", x.state(0, 0), -1);
        bench.dueVerdict(x, 1, "S1", "Y0S1");
        bench.dueVerdict(x, 0, "Q2", "XQ2");
        bench.dueVerdict(x, 0, "P2a1|", "XP2");
        bench.dueVerdict(x, 0, "Q3", "XP2");
        x.reset(0);
        bench.dueVerdict(x, 0, "Q4", "XQ4");
    }

    private static void againWithAnAnswer(Bench bench) {
        bench.by("For Q: the latest answer of this line once more");
        ExchangeWire x = new ExchangeWire();
        bench.dueVerdict(x, 0, "S1", "Y0S1");
        bench.dueVerdict(x, 0, "Q2", "Y0S1");
        bench.dueVerdict(x, 0, "Q2", "Y0S1");
        bench.due("a wrong one", Bench.sendRaw(x, 0, "S3"), WRONG);
        bench.dueVerdict(x, 0, "Q3", "Y0S1");
        bench.dueVerdict(x, 0, "P4a30|", "EaP4");
        bench.dueVerdict(x, 0, "Q5", "EaP4");
        bench.dueVerdict(x, 0, "B6b1|", "X0B6");
        bench.dueVerdict(x, 0, "Q7", "X0B6");
        bench.dueVerdict(x, 0, "C8a1|b1|", "Y1C8");
        bench.dueVerdict(x, 1, "P9a1|", "XP9");
        bench.dueVerdict(x, 0, "Q9", "Y1C8");
        bench.due("done once", x.acts(), 1);
    }

    private static void againComesBeforeTheNumber(Bench bench) {
        bench.by("(the first of these)");
        ExchangeWire x = new ExchangeWire();
        bench.dueVerdict(x, 0, "S1", "Y0S1");
        bench.dueVerdict(x, 0, "Q1", "Y0S1");
        bench.dueVerdict(x, 0, "Q2", "Y0S1");
        bench.due("a Q's number is not the latest", x.state(0, 0), 1);
        bench.dueVerdict(x, 0, "C2a1|b1|", "Y1C2");
        x.reset(0);
        bench.dueVerdict(x, 0, "Q1", "XQ1");
        bench.dueVerdict(x, 0, "S1", "Y0S1");
    }

    private static void numberOfTheLatest(Bench bench) {
        bench.by("If its NUMBER is that of the latest message of this line that was done: that answer once more");
        ExchangeWire x = new ExchangeWire();
        bench.dueVerdict(x, 0, "S1", "Y0S1");
        bench.dueVerdict(x, 0, "C2a1|b1|", "Y1C2");
        bench.dueVerdict(x, 0, "C2a1|b1|", "Y1C2");
        bench.dueVerdict(x, 0, "C2a1|b2|", "Y1C2");
        bench.dueVerdict(x, 0, "B2b1|", "Y1C2");
        bench.dueVerdict(x, 0, "P2a30|", "Y1C2");
        bench.due("done once", x.acts(), 1);
        bench.dueVerdict(x, 0, "C1a1|b2|", "Y2C1");
        bench.dueVerdict(x, 0, "C2a1|b3|", "Y3C2");
        bench.dueVerdict(x, 0, "P3a30|", "EaP3");
        bench.dueVerdict(x, 0, "C3a1|b4|", "EaP3");
        bench.dueVerdict(x, 0, "B4b9|", "X0B4");
        bench.dueVerdict(x, 0, "C4a1|b4|", "X0B4");
        bench.due("done three times", x.acts(), 3);
    }

    private static void numbersWrapAround(Bench bench) {
        bench.by("If its NUMBER is that of the latest message of this line that was done: that answer once more");
        ExchangeWire x = new ExchangeWire();
        // No message was done yet, so that 0 is not the latest number.
        bench.dueVerdict(x, 0, "S0", "Y0S0");
        bench.dueVerdict(x, 0, "P0a1|", "Y0S0");
        for (int number = 1; number <= 11; number++) {
            String message = "P" + number % 10 + "a1|";
            bench.dueVerdict(x, 0, message, "Y0P" + number % 10);
            bench.due("the number after " + message, x.state(0, 0), number % 10);
        }
        ExchangeWire back = new ExchangeWire();
        bench.dueVerdict(back, 0, "S9", "Y0S9");
        bench.dueVerdict(back, 0, "C0a1|b1|", "Y1C0");
        bench.dueVerdict(back, 0, "P9a1|", "Y0P9");
        bench.dueVerdict(back, 0, "C0a1|b2|", "Y2C0");
    }

    private static void numbersOfTheLineAlone(Bench bench) {
        bench.by("the latest message of this line");
        ExchangeWire x = new ExchangeWire();
        bench.dueVerdict(x, 0, "S1", "Y0S1");
        bench.dueVerdict(x, 5, "S1", "Y0S1");
        bench.dueVerdict(x, 0, "C2a1|b1|", "Y1C2");
        bench.dueVerdict(x, 5, "C2a1|b2|", "Y2C2");
        bench.due("both were done", x.acts(), 2);
        x.reset(0);
        bench.dueVerdict(x, 0, "S2", "Y0S2");
        bench.dueVerdict(x, 5, "C2a1|b3|", "Y2C2");
    }

    private static void numberComesBeforeTheSignOn(Bench bench) {
        bench.by("(the first of these)");
        ExchangeWire x = new ExchangeWire();
        bench.dueVerdict(x, 0, "P1a1|", "XP1");
        bench.dueVerdict(x, 0, "S1", "XP1");
        bench.due("S was done", x.state(0, 1), 0);
        bench.dueVerdict(x, 0, "B1b1|", "XP1");
        bench.dueVerdict(x, 0, "S2", "Y0S2");
        bench.due("S was done", x.state(0, 1), 1);
        bench.dueVerdict(x, 0, "P1a1|", "Y0P1");
    }

    private static void notSignedOn(Bench bench) {
        bench.by("X if it is not S, and no S was done on this line.");
        String[] bodies = {"C1a1|b1|", "B2b1|", "P3a1|", "I4b1|", "F5a1|c0|", "H6a1|b1|", "R7a1|b1|"};
        ExchangeWire x = new ExchangeWire();
        bench.dueVerdict(x, 1, "S0", "Y0S0");
        for (String body : bodies) {
            bench.dueVerdict(x, 0, body, "X" + body.substring(0, 2));
            bench.due("it is done: " + body, x.state(0, 0), body.charAt(1) - '0');
        }
        bench.due("S was done", x.state(0, 1), 0);
        bench.due("acts", x.acts(), 0);
        bench.dueVerdict(x, 0, "S8", "Y0S8");
        bench.dueVerdict(x, 0, "C9a1|b1|", "Y1C9");
        x.reset(0);
        bench.dueVerdict(x, 0, "B1b1|", "XB1");
        bench.due("acts", x.acts(), 1);
    }

    private static void signOnComesBeforeTheFields(Bench bench) {
        bench.by("(the first of these)");
        ExchangeWire x = new ExchangeWire();
        bench.dueVerdict(x, 0, "P1a30|", "XP1");
        bench.dueVerdict(x, 0, "F2a1|c50001|", "XF2");
        bench.dueVerdict(x, 0, "S3", "Y0S3");
        bench.dueVerdict(x, 0, "P1a30|", "EaP1");
        bench.dueVerdict(x, 0, "F2a1|c50001|", "EcF2");
    }

    private static void fieldsThatNameNothing(Bench bench) {
        bench.by("whose number is no person, no item, or, of c, above 50000");
        Desk desk = new Desk(bench);
        desk.wire.owes(29, 100000);
        desk.ask("P", "a29|", "Y100000");
        desk.ask("P", "a30|", "Ea");
        desk.ask("P", "a99999|", "Ea");
        desk.ask("I", "b29|", "Y0");
        desk.ask("I", "b30|", "Eb");
        desk.ask("I", "b99999|", "Eb");
        desk.ask("F", "a29|c50000|", "Y50000");
        desk.ask("F", "a29|c50001|", "Ec");
        desk.ask("F", "a29|c99999|", "Ec");
        desk.ask("F", "a29|c49999|", "Y1");
        desk.ask("F", "a29|c50000|", "X1");
        // c is bound by 50000, not by the persons and items.
        desk.ask("F", "a29|c30|", "X1");
    }

    private static void firstFieldThatNamesNothing(Bench bench) {
        bench.by("E and the letter of the first FIELD");
        for (String kind : new String[] {"C", "H", "R"}) {
            Desk desk = new Desk(bench);
            desk.ask(kind, "a30|b30|", "Ea");
            desk.ask(kind, "a30|b29|", "Ea");
            desk.ask(kind, "a29|b30|", "Eb");
        }
        Desk desk = new Desk(bench);
        desk.ask("F", "a30|c50001|", "Ea");
        desk.ask("F", "a30|c50000|", "Ea");
        desk.ask("F", "a29|c50001|", "Ec");
        desk.ask("B", "b30|", "Eb");
    }

    private static void errorIsOfAMessageThatIsDone(Bench bench) {
        bench.by("(This, too, and all that follow, are answers of a message that is done.)");
        ExchangeWire x = new ExchangeWire();
        bench.dueVerdict(x, 0, "S1", "Y0S1");
        bench.dueVerdict(x, 0, "C2a30|b1|", "EaC2");
        bench.due("its number", x.state(0, 0), 2);
        bench.due("it is not wrong", x.state(0, 4), 0);
        bench.dueVerdict(x, 0, "C2a1|b1|", "EaC2");
        bench.dueVerdict(x, 0, "Q3", "EaC2");
        bench.due("acts", x.acts(), 0);
        bench.dueVerdict(x, 0, "C3a1|b1|", "Y1C3");
    }

    private static void wrongAnswerStandsAlone(Bench bench) {
        bench.by("an N is N alone with these (NZ4E and 13)");
        ExchangeWire x = new ExchangeWire();
        Bench.sendRaw(x, 0, "P5a1|Z00");
        int[] signs = {'N', 'Z', '4', 'E', 13, Bench.THROWN};
        for (int i = 0; i < signs.length; i++) {
            bench.due("sign " + i, Bench.sign(x, 0, i), signs[i]);
        }
    }

    /** Answers of P with every sum that they can have, 255 and 0 among them. */
    private static void sumsOfAnswers(Bench bench) {
        bench.by("An ANSWER is that, then the message's KIND and NUMBER, Z, the SUM of what is before, and a sign 13");
        boolean[] seen = new boolean[256];
        for (int cents = 0; cents <= 100000; cents++) {
            for (int number = 1; number <= 9; number++) {
                String want = "Y" + cents + "P" + number;
                int sum = want.chars().sum() % 256;
                if (!seen[sum]) {
                    seen[sum] = true;
                    ExchangeWire x = new ExchangeWire();
                    Bench.send(x, 0, "S0");
                    x.owes(3, cents);
                    bench.dueVerdict(x, 0, "P" + number + "a3|", want);
                }
            }
        }
        bench.due("255 was seen", seen[255] ? 1 : 0, 1);
        bench.due("0 was seen", seen[0] ? 1 : 0, 1);
    }
}
