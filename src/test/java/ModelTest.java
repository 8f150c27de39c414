import java.util.ArrayList;
import java.util.Arrays;
import java.util.List;
import java.util.Random;
import java.util.regex.Matcher;
import java.util.regex.Pattern;

/** Runs of drawn calls (always the same ones) beside a second reading of the document. */
public final class ModelTest {
    private static final int RUNS = 4000;
    private static final int CALLS = 512;
    private static final int[] STRANGE = {-1, -2, 6, 30, 31, 256, 1000, Integer.MIN_VALUE, Integer.MAX_VALUE};

    /** The document once more, written with the library's texts, patterns and lists. */
    private static final class Model {
        private static final Pattern MADE = Pattern.compile(
            "(?:[SQ]\\d|[CHR]\\da(\\d{1,5})\\|b(\\d{1,5})\\||[BI]\\db(\\d{1,5})\\||P\\da(\\d{1,5})\\||F\\da(\\d{1,5})\\|c(\\d{1,5})\\|)"
            + "Z[0-9A-F]{2}", Pattern.DOTALL);

        private final String[] typed = new String[6];
        private final String[] shown = new String[6];
        private final String[] kept = new String[6];
        private final int[] latest = new int[6];
        private final boolean[] signedOn = new boolean[6];
        private final int[] wrong = new int[6];
        private final List<List<int[]>> rows = new ArrayList<>();
        private final int[] owed = new int[30];
        private final int[] has = new int[30];
        private final int[] renewed = new int[30];
        private final List<List<Integer>> waiting = new ArrayList<>();
        private final List<int[]> acts = new ArrayList<>();
        private int told = 0;

        Model() {
            Arrays.fill(has, -1);
            for (int i = 0; i < 30; i++) {
                waiting.add(new ArrayList<>());
            }
            for (int i = 0; i < 6; i++) {
                rows.add(new ArrayList<>());
                reset(i);
            }
        }

        int octet(int device, int b) {
            if (device < 0 || device > 5) {
                return -1;
            }
            if (typed[device].length() > 60) {
                return -2;
            }
            if ((b & 255) != 13) {
                typed[device] += (char) (b & 255);
                return typed[device].length() > 60 ? -2 : typed[device].length();
            }
            shown[device] = reply(device, typed[device]) + "\r";
            typed[device] = "";
            return 0;
        }

        private String reply(int device, String text) {
            Matcher made = MADE.matcher(text);
            int z = text.length() - 3;
            if (!made.matches() || !Bench.sealed(text.substring(0, z)).equals(text)) {
                wrong[device]++;
                return "NZ4E";
            }
            String source = text.substring(0, 2);
            if (text.charAt(0) == 'Q') {
                return kept[device].isEmpty() ? Bench.sealed("X" + source) : kept[device];
            }
            if (text.charAt(1) - '0' != latest[device]) {
                latest[device] = text.charAt(1) - '0';
                kept[device] = Bench.sealed(verdict(device, text, made) + source);
            }
            return kept[device];
        }

        private static int group(Matcher made, int... groups) {
            for (int group : groups) {
                if (made.group(group) != null) {
                    return Integer.parseInt(made.group(group));
                }
            }
            return -1;
        }

        private String verdict(int device, String text, Matcher made) {
            char kind = text.charAt(0);
            signedOn[device] |= kind == 'S';
            if (!signedOn[device]) {
                return "X";
            }
            int person = group(made, 1, 4, 5);
            int item = group(made, 2, 3);
            int cents = group(made, 6);
            if (person > 29) {
                return "Ea";
            }
            if (item > 29) {
                return "Eb";
            }
            if (cents > 50000) {
                return "Ec";
            }
            switch (kind) {
                case 'S':
                    return "Y0";
                case 'P':
                    return "Y" + owed[person];
                case 'I':
                    return "Y" + (has[item] + 1);
                default:
                    boolean yes = done(device, kind, item, person, cents, text.charAt(1) - '0');
                    return (yes ? "Y" : "X") + number(kind, item, person);
            }
        }

        private long number(char kind, int item, int person) {
            switch (kind) {
                case 'C':
                    return Arrays.stream(has).filter(who -> who == person).count();
                case 'F':
                    return owed[person];
                case 'R':
                    return renewed[item];
                default:
                    return waiting.get(item).size();
            }
        }

        private boolean done(int device, char kind, int item, int person, int cents, int number) {
            int[] act = {device, kind, item, kind == 'B' ? has[item] : person, number};
            boolean yes;
            switch (kind) {
                case 'C':
                    List<Integer> row = waiting.get(item);
                    yes = has[item] < 0 && (row.isEmpty() || row.get(0) == person) && owed[person] <= 500;
                    if (yes) {
                        row.remove(Integer.valueOf(person));
                        has[item] = person;
                        renewed[item] = 0;
                    }
                    break;
                case 'B':
                    yes = has[item] >= 0;
                    has[item] = -1;
                    break;
                case 'F':
                    yes = cents <= owed[person];
                    owed[person] -= yes ? cents : 0;
                    break;
                case 'H':
                    yes = has[item] >= 0 && has[item] != person && !waiting.get(item).contains(person);
                    if (yes) {
                        waiting.get(item).add(person);
                    }
                    break;
                default:
                    yes = has[item] == person && waiting.get(item).isEmpty() && renewed[item] < 2;
                    renewed[item] += yes ? 1 : 0;
            }
            if (yes) {
                acts.add(act);
            }
            return yes;
        }

        int answer(int device, int i) {
            boolean is = device >= 0 && device < 6 && i >= 0 && i < shown[device].length();
            return is ? shown[device].charAt(i) : Bench.THROWN;
        }

        int reset(int device) {
            if (device < 0 || device > 5) {
                return -1;
            }
            int taken = typed[device] == null ? 0 : typed[device].length();
            typed[device] = "";
            shown[device] = "";
            kept[device] = "";
            latest[device] = -1;
            signedOn[device] = false;
            wrong[device] = 0;
            return taken;
        }

        int offline(int device, int kind, int item, int person) {
            if (device < 0 || device > 5 || kind < 0 || kind > 1 || item < 0 || item > 29 || person < 0 || person > 29) {
                return -1;
            }
            if (rows.get(device).size() == 20) {
                return -2;
            }
            rows.get(device).add(new int[] {kind, item, person});
            return rows.get(device).size();
        }

        int join(int device) {
            if (device < 0 || device > 5) {
                return -1;
            }
            int before = acts.size();
            for (int[] row : rows.get(device)) {
                done(device, row[0] == 0 ? 'C' : 'B', row[1], row[2], 0, -1);
            }
            rows.get(device).clear();
            return acts.size() - before;
        }

        int owes(int person, int cents) {
            if (person < 0 || person > 29 || cents < 0 || cents > 100000) {
                return -1;
            }
            int before = owed[person];
            owed[person] = cents;
            return before;
        }

        int act(int i, int what) {
            boolean is = i >= 0 && i < acts.size() && i < 1000 && what >= 0 && what < 5;
            return is ? acts.get(i)[what] : -1;
        }

        int sum(int c) {
            int before = told;
            told = c < 0 ? 0 : (int) ((told + (long) c) % 256);
            return c < 0 ? before : told;
        }

        int state(int device, int what) {
            if (device < 0 || device > 5 || what < 0 || what > 4) {
                return -1;
            }
            int[] states = {latest[device], signedOn[device] ? 1 : 0, typed[device].length() > 60 ? 1 : 0,
                rows.get(device).size(), wrong[device]};
            return states[what];
        }

        int waits(int item, int i) {
            boolean is = item >= 0 && item < 30 && i >= 0 && i < waiting.get(item).size();
            return is ? waiting.get(item).get(i) : -1;
        }
    }

    private final Bench bench;
    private final Random drawn;
    private final ExchangeWire x = new ExchangeWire();
    private final Model model = new Model();
    private final int devices;
    private final int persons;
    private final int items;
    private int calls = 0;
    private int number = 0;

    private ModelTest(Bench bench, long seed) {
        this.bench = bench;
        drawn = new Random(seed);
        devices = 1 + drawn.nextInt(3);
        persons = 2 + drawn.nextInt(4);
        items = 1 + drawn.nextInt(3);
    }

    public static void main(String[] args) {
        Bench bench = new Bench();
        for (int run = 0; run < RUNS && !bench.hasWrong(); run++) {
            try {
                new ModelTest(bench, run).run();
            } catch (RuntimeException e) {
                System.out.println("run " + run + " threw " + e);
                System.exit(1);
            }
            if (bench.hasWrong()) {
                System.out.println("in run " + run);
            }
        }
        bench.end();
    }

    private int draw(int bound) {
        return drawn.nextInt(60) == 0 ? STRANGE[drawn.nextInt(STRANGE.length)] : drawn.nextInt(bound);
    }

    private void run() {
        while (calls < CALLS) {
            int choice = drawn.nextInt(100);
            int device = draw(devices);
            if (choice < 55) {
                send(device, message());
            } else if (choice < 57) {
                send(device, mangled(message()));
            } else if (choice < 58) {
                send(device, "1".repeat(55 + drawn.nextInt(9)));
            } else {
                call(choice, device);
            }
        }
        lookAtAll();
    }

    private String field(char letter, int bound) {
        int value = drawn.nextInt(40) == 0 ? 29 + drawn.nextInt(2) : drawn.nextInt(bound);
        return letter + (drawn.nextInt(30) == 0 ? String.format("%05d", value) : Integer.toString(value)) + "|";
    }

    private String message() {
        char kind = "SCCCBBPIFHHHRRQ".charAt(drawn.nextInt(15));
        if (drawn.nextInt(8) != 0) {
            number = (number + 1) % 10;
        }
        String body = Character.toString(kind) + number;
        if ("CPFHR".indexOf(kind) >= 0) {
            body += field('a', persons);
        }
        if ("CBIHR".indexOf(kind) >= 0) {
            body += field('b', items);
        }
        if (kind == 'F') {
            body += "c" + (drawn.nextInt(9) == 0 ? 50000 + drawn.nextInt(2) : drawn.nextInt(600)) + "|";
        }
        return Bench.sealed(body);
    }

    private String mangled(String text) {
        int at = drawn.nextInt(text.length());
        int end = at + drawn.nextInt(2);
        String body = text.substring(0, at) + "SQab09|Z\n".charAt(drawn.nextInt(9)) + text.substring(end);
        return drawn.nextBoolean() || body.length() < 3 ? body : Bench.sealed(body.substring(0, body.length() - 3));
    }

    private void send(int device, String text) {
        for (char sign : (text + "\r").toCharArray()) {
            int b = drawn.nextInt(50) == 0 ? sign - 256 : sign;
            bench.due("octet(" + device + ", " + b + ")", x.octet(device, b), model.octet(device, b));
            calls++;
        }
        lookAtAnswer(device);
    }

    /** Looking changes nothing, so it is not counted: any run of 512 calls could look there. */
    private void lookAtAnswer(int device) {
        for (int i = -1; i < 16; i++) {
            bench.due("answer(" + device + ", " + i + ")", Bench.sign(x, device, i), model.answer(device, i));
        }
    }

    private void call(int choice, int device) {
        calls++;
        int item = draw(items);
        int person = draw(persons);
        if (choice < 75) {
            int kind = draw(2);
            bench.due("offline", x.offline(device, kind, item, person), model.offline(device, kind, item, person));
        } else if (choice < 80) {
            bench.due("join", x.join(device), model.join(device));
        } else if (choice < 88) {
            int cents = draw(4) == 0 ? draw(100001) : draw(700);
            bench.due("owes", x.owes(person, cents), model.owes(person, cents));
        } else if (choice < 90) {
            int c = draw(500);
            bench.due("sum", x.sum(c), model.sum(c));
        } else if (choice < 91) {
            bench.due("reset", x.reset(device), model.reset(device));
        } else {
            int i = draw(20);
            int what = draw(5);
            bench.due("act", x.act(i, what), model.act(i, what));
            bench.due("state", x.state(device, what), model.state(device, what));
            bench.due("waits", x.waits(item, i), model.waits(item, i));
        }
    }

    private void lookAtAll() {
        bench.due("acts()", x.acts(), model.acts.size());
        for (int i = -1; i <= model.acts.size(); i++) {
            for (int what = -1; what < 6; what++) {
                bench.due("act(" + i + ", " + what + ")", x.act(i, what), model.act(i, what));
                bench.due("state(" + i + ", " + what + ")", x.state(i, what), model.state(i, what));
            }
        }
        for (int item = -1; item < 31; item++) {
            for (int i = -1; i < 31; i++) {
                bench.due("waits(" + item + ", " + i + ")", x.waits(item, i), model.waits(item, i));
            }
            bench.due("owes(" + item + ", 0)", x.owes(item, 0), model.owes(item, 0));
        }
    }
}
