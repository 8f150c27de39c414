/**
 * A circulation exchange over lines. The document's words are kept for what they name: a line takes
 * signs, a message is answered, a row is joined, an act is told.
 */
public final class ExchangeWire {
    public static final int NONE = -1;

    private static final int LINE_IS_BROKEN = -2;
    private static final int ROWS_ARE_FULL = -2;
    private static final int DEVICES = 6;
    private static final int PERSONS = 30;
    private static final int ITEMS = 30;
    private static final int MOST_SIGNS = 60;
    private static final int MOST_ROWS = 20;
    private static final int MOST_OWED = 100000;
    private static final int MOST_PAID = 50000;
    private static final int MOST_OWED_TO_LEND = 500;
    private static final int MOST_RENEWALS = 2;
    private static final int MOST_FIELD_DIGITS = 5;
    private static final int END = 13;

    private final Line[] lines;
    private final House house;
    private final Journal journal;
    private final Message message;
    private int sumSoFar;

    public ExchangeWire() {
        lines = new Line[DEVICES];
        for (int i = 0; i < DEVICES; i++) {
            lines[i] = new Line();
        }
        house = new House();
        journal = new Journal();
        message = new Message();
        sumSoFar = 0;
    }

    public int octet(int device, int b) {
        if (!isBelow(device, DEVICES)) {
            return NONE;
        }
        Line line = lines[device];
        int sign = b & 255;
        if (line.broken || sign != END) {
            return line.take(sign);
        }
        endMessage(device, line);
        return 0;
    }

    public int answer(int device, int i) throws ArrayIndexOutOfBoundsException {
        if (!isBelow(device, DEVICES) || !isBelow(i, lines[device].shown.length)) {
            throw new ArrayIndexOutOfBoundsException("no such sign of an answer");
        }
        return lines[device].shown.signs[i];
    }

    public int reset(int device) {
        if (!isBelow(device, DEVICES)) {
            return NONE;
        }
        int taken = lines[device].count;
        lines[device].clear();
        return taken;
    }

    public int offline(int device, int kind, int item, int person) {
        boolean known = isBelow(device, DEVICES) && isBelow(kind, 2)
            && isBelow(item, ITEMS) && isBelow(person, PERSONS);
        if (!known) {
            return NONE;
        }
        return lines[device].addRow(kind == 0 ? 'C' : 'B', item, person);
    }

    public int join(int device) {
        if (!isBelow(device, DEVICES)) {
            return NONE;
        }
        Line line = lines[device];
        int yes = 0;
        for (int i = 0; i < line.rowCount; i++) {
            message.fillFromRow(line.rowKinds[i], line.rowItems[i], line.rowPersons[i]);
            if (carryOut(device)) {
                yes++;
            }
        }
        line.rowCount = 0;
        return yes;
    }

    public int owes(int person, int cents) {
        if (!isBelow(person, PERSONS) || cents < 0 || cents > MOST_OWED) {
            return NONE;
        }
        int before = house.debts[person];
        house.debts[person] = cents;
        return before;
    }

    public int acts() {
        return journal.count;
    }

    public int act(int i, int what) {
        return journal.tell(i, what);
    }

    public int sum(int c) {
        if (c < 0) {
            int told = sumSoFar;
            sumSoFar = 0;
            return told;
        }
        sumSoFar = (sumSoFar + c) & 255;
        return sumSoFar;
    }

    public int state(int device, int what) {
        if (!isBelow(device, DEVICES)) {
            return NONE;
        }
        Line line = lines[device];
        switch (what) {
            case 0:
                return line.latestNumber;
            case 1:
                return line.signedOn ? 1 : 0;
            case 2:
                return line.broken ? 1 : 0;
            case 3:
                return line.rowCount;
            case 4:
                return line.wrongCount;
            default:
                return NONE;
        }
    }

    public int waits(int item, int i) {
        if (!isBelow(item, ITEMS) || !isBelow(i, house.queueLengths[item])) {
            return NONE;
        }
        return house.queues[item][i];
    }

    private void endMessage(int device, Line line) {
        boolean made = message.read(line.signs, line.count);
        line.count = 0;
        if (!made) {
            line.wrongCount++;
            line.shown.writeWrong();
        } else if (message.kind == 'Q' && line.kept.length == 0) {
            line.shown.writeNo(message);
        } else {
            if (message.kind != 'Q' && message.number != line.latestNumber) {
                doMessage(device, line);
            }
            // Every other answer is the kept one: the new one, or an earlier one once more.
            line.shown.copy(line.kept);
        }
    }

    private void doMessage(int device, Line line) {
        line.latestNumber = message.number;
        if (message.kind == 'S') {
            line.signedOn = true;
        }
        int badField = message.firstBadField();
        if (!line.signedOn) {
            line.kept.writeNo(message);
        } else if (badField != NONE) {
            line.kept.writeError(message, badField);
        } else {
            boolean yes = carryOut(device);
            line.kept.writeVerdict(message, yes, house.figureFor(message));
        }
    }

    private boolean carryOut(int device) {
        if (message.kind == 'B') {
            // The act names whom it was lent to, which nobody knows once it is back.
            message.person = house.borrowers[message.item];
        }
        boolean yes = house.decide(message);
        if (yes && message.changesTheHouse()) {
            journal.add(device, message);
        }
        return yes;
    }

    private static boolean isBelow(int i, int bound) {
        return i >= 0 && i < bound;
    }

    private static boolean isDigit(int sign) {
        return sign >= '0' && sign <= '9';
    }

    private static int hexDigit(int value) {
        int low = value & 15;
        return low < 10 ? '0' + low : 'A' + low - 10;
    }

    private static int sumOf(int[] signs, int count) {
        int total = 0;
        for (int i = 0; i < count && i < signs.length; i++) {
            total += signs[i];
        }
        return total & 255;
    }

    /** A device's line, with the rows of when it was down. */
    private static final class Line {
        final int[] signs = new int[MOST_SIGNS];
        int count = 0;
        boolean broken = false;
        boolean signedOn = false;
        int latestNumber = NONE;
        int wrongCount = 0;
        // An N and a Q's X are shown but not kept, so the two may differ.
        final Reply shown = new Reply();
        final Reply kept = new Reply();
        final int[] rowKinds = new int[MOST_ROWS];
        final int[] rowItems = new int[MOST_ROWS];
        final int[] rowPersons = new int[MOST_ROWS];
        int rowCount = 0;

        int take(int sign) {
            if (broken) {
                return LINE_IS_BROKEN;
            }
            if (isBelow(count, MOST_SIGNS)) {
                signs[count] = sign;
                count++;
                return count;
            }
            // The sign that breaks the line is one that the line has: a reset takes it away, too.
            count++;
            broken = true;
            return LINE_IS_BROKEN;
        }

        // The rows stay: they are the device's, and a reset is the line's.
        void clear() {
            count = 0;
            broken = false;
            signedOn = false;
            latestNumber = NONE;
            wrongCount = 0;
            shown.length = 0;
            kept.length = 0;
        }

        int addRow(int kind, int item, int person) {
            if (!isBelow(rowCount, MOST_ROWS)) {
                return ROWS_ARE_FULL;
            }
            rowKinds[rowCount] = kind;
            rowItems[rowCount] = item;
            rowPersons[rowCount] = person;
            rowCount++;
            return rowCount;
        }
    }

    /** What a message says; there is one, filled anew for each message and each row. */
    private static final class Message {
        int kind = 0;
        int number = NONE;
        int person = NONE;
        int item = NONE;
        int cents = NONE;

        void fillFromRow(int rowKind, int rowItem, int rowPerson) {
            forget();
            kind = rowKind;
            item = rowItem;
            person = rowPerson;
        }

        /** False if the signs are not made as a message is, or their sum is another one. */
        boolean read(int[] signs, int count) {
            forget();
            if (count < 2 || count > signs.length) {
                return false;
            }
            String letters = fieldsOf(signs[0]);
            if (letters == null || !isDigit(signs[1])) {
                return false;
            }
            kind = signs[0];
            number = signs[1] - '0';
            int at = 2;
            for (int i = 0; i < letters.length(); i++) {
                at = readField(letters.charAt(i), signs, count, at);
                if (at == NONE) {
                    return false;
                }
            }
            return endsWithSum(signs, count, at);
        }

        /** The letter of the first field that names nothing, or NONE. */
        int firstBadField() {
            String letters = fieldsOf(kind);
            if (letters == null) {
                return NONE;
            }
            for (int i = 0; i < letters.length(); i++) {
                if (!isGoodField(letters.charAt(i))) {
                    return letters.charAt(i);
                }
            }
            return NONE;
        }

        boolean changesTheHouse() {
            return kind == 'C' || kind == 'B' || kind == 'F' || kind == 'H' || kind == 'R';
        }

        private void forget() {
            kind = 0;
            number = NONE;
            person = NONE;
            item = NONE;
            cents = NONE;
        }

        /** The letters of a kind's fields in their order, or null if there is no such kind. */
        private static String fieldsOf(int kind) {
            switch (kind) {
                case 'S':
                case 'Q':
                    return "";
                case 'C':
                case 'H':
                case 'R':
                    return "ab";
                case 'B':
                case 'I':
                    return "b";
                case 'P':
                    return "a";
                case 'F':
                    return "ac";
                default:
                    return null;
            }
        }

        /** The place behind the field that begins at a place, or NONE if there is no such field. */
        private int readField(int letter, int[] signs, int count, int at) {
            if (at >= count || signs[at] != letter) {
                return NONE;
            }
            int start = at + 1;
            int bound = Math.min(count, start + MOST_FIELD_DIGITS);
            int value = 0;
            int place = start;
            while (place < bound && isDigit(signs[place])) {
                value = value * 10 + signs[place] - '0';
                place++;
            }
            if (place == start || place >= count || signs[place] != '|') {
                return NONE;
            }
            keepField(letter, value);
            return place + 1;
        }

        private void keepField(int letter, int value) {
            if (letter == 'a') {
                person = value;
            } else if (letter == 'b') {
                item = value;
            } else {
                cents = value;
            }
        }

        private boolean isGoodField(int letter) {
            if (letter == 'a') {
                return isBelow(person, PERSONS);
            }
            if (letter == 'b') {
                return isBelow(item, ITEMS);
            }
            return cents >= 0 && cents <= MOST_PAID;
        }

        private static boolean endsWithSum(int[] signs, int count, int at) {
            if (count != at + 3 || signs[at] != 'Z') {
                return false;
            }
            int due = sumOf(signs, at);
            return signs[at + 1] == hexDigit(due >> 4) && signs[at + 2] == hexDigit(due);
        }
    }

    /** The signs of one answer. */
    private static final class Reply {
        // The longest: Y, six digits, kind, number, Z, two of the sum, the end.
        private static final int MOST = 13;
        private static final int HIGHEST_UNIT = 100000;

        final int[] signs = new int[MOST];
        int length = 0;

        void writeWrong() {
            length = 0;
            add('N');
            addSumAndEnd();
        }

        void writeNo(Message of) {
            length = 0;
            add('X');
            addSource(of);
        }

        void writeError(Message of, int letter) {
            length = 0;
            add('E');
            add(letter);
            addSource(of);
        }

        void writeVerdict(Message of, boolean yes, int figure) {
            length = 0;
            add(yes ? 'Y' : 'X');
            addDigits(figure);
            addSource(of);
        }

        void copy(Reply from) {
            System.arraycopy(from.signs, 0, signs, 0, MOST);
            length = from.length;
        }

        private void addSource(Message of) {
            add(of.kind);
            add('0' + of.number);
            addSumAndEnd();
        }

        private void addSumAndEnd() {
            int due = sumOf(signs, length);
            add('Z');
            add(hexDigit(due >> 4));
            add(hexDigit(due));
            add(END);
        }

        private void addDigits(int value) {
            for (int unit = HIGHEST_UNIT; unit > 0; unit /= 10) {
                if (value >= unit || unit == 1) {
                    add('0' + value / unit % 10);
                }
            }
        }

        private void add(int sign) {
            if (length >= 0 && length < MOST) {
                signs[length] = sign;
                length++;
            }
        }
    }

    /** Who owes, who has what, who waits; it is asked only with persons and items that there are. */
    private static final class House {
        final int[] debts = new int[PERSONS];
        final int[] borrowers = new int[ITEMS];
        final int[] renewals = new int[ITEMS];
        final int[][] queues = new int[ITEMS][PERSONS];
        final int[] queueLengths = new int[ITEMS];

        House() {
            for (int i = 0; i < ITEMS; i++) {
                borrowers[i] = NONE;
            }
        }

        /** The verdict; where it is yes, what the message asks for is done. */
        boolean decide(Message asked) {
            switch (asked.kind) {
                case 'C':
                    return lend(asked.person, asked.item);
                case 'B':
                    return bringBack(asked.item);
                case 'F':
                    return pay(asked.person, asked.cents);
                case 'H':
                    return queueUp(asked.person, asked.item);
                case 'R':
                    return renew(asked.person, asked.item);
                default:
                    return true;
            }
        }

        /** The number that stands behind the verdict, as things are after it. */
        int figureFor(Message asked) {
            switch (asked.kind) {
                case 'C':
                    return itemsOf(asked.person);
                case 'B':
                case 'H':
                    return queueLengths[asked.item];
                case 'P':
                case 'F':
                    return debts[asked.person];
                case 'I':
                    return borrowers[asked.item] == NONE ? 0 : borrowers[asked.item] + 1;
                case 'R':
                    return renewals[asked.item];
                default:
                    return 0;
            }
        }

        private boolean lend(int person, int item) {
            boolean isNext = queueLengths[item] == 0 || queues[item][0] == person;
            if (borrowers[item] != NONE || !isNext || debts[person] > MOST_OWED_TO_LEND) {
                return false;
            }
            dropFirst(item);
            borrowers[item] = person;
            renewals[item] = 0;
            return true;
        }

        // The renewals stay: they count from when it was lent until it is lent again.
        private boolean bringBack(int item) {
            if (borrowers[item] == NONE) {
                return false;
            }
            borrowers[item] = NONE;
            return true;
        }

        private boolean pay(int person, int cents) {
            if (cents > debts[person]) {
                return false;
            }
            debts[person] -= cents;
            return true;
        }

        private boolean queueUp(int person, int item) {
            boolean hasOther = borrowers[item] != NONE && borrowers[item] != person;
            int length = queueLengths[item];
            if (!hasOther || isInQueue(person, item) || !isBelow(length, PERSONS)) {
                return false;
            }
            queues[item][length] = person;
            queueLengths[item] = length + 1;
            return true;
        }

        private boolean renew(int person, int item) {
            boolean hasIt = borrowers[item] == person;
            if (!hasIt || queueLengths[item] > 0 || renewals[item] >= MOST_RENEWALS) {
                return false;
            }
            renewals[item]++;
            return true;
        }

        private int itemsOf(int person) {
            int items = 0;
            for (int i = 0; i < ITEMS; i++) {
                if (borrowers[i] == person) {
                    items++;
                }
            }
            return items;
        }

        private boolean isInQueue(int person, int item) {
            for (int i = 0; i < queueLengths[item]; i++) {
                if (queues[item][i] == person) {
                    return true;
                }
            }
            return false;
        }

        private void dropFirst(int item) {
            if (queueLengths[item] == 0) {
                return;
            }
            for (int i = 1; i < queueLengths[item]; i++) {
                queues[item][i - 1] = queues[item][i];
            }
            queueLengths[item]--;
        }
    }

    /** The acts in their order. */
    private static final class Journal {
        private static final int MOST_TOLD = 1000;
        private static final int PARTS = 5;

        // One row for all acts, so that an act makes no object.
        private final int[] parts = new int[MOST_TOLD * PARTS];
        int count = 0;

        void add(int device, Message done) {
            if (isBelow(count, MOST_TOLD)) {
                int at = count * PARTS;
                parts[at] = device;
                parts[at + 1] = done.kind;
                parts[at + 2] = done.item;
                parts[at + 3] = done.person;
                parts[at + 4] = done.number;
            }
            count++;
        }

        int tell(int i, int what) {
            if (!isBelow(i, Math.min(count, MOST_TOLD)) || !isBelow(what, PARTS)) {
                return NONE;
            }
            return parts[i * PARTS + what];
        }
    }
}
