/** A keeper of other names: what each house calls the same people, and who may find out. */
public final class OtherNames {
    public static final int NONE = -1;

    private static final int LAST_DAY = 3000;
    private static final int LAST_HAND = 9;
    private static final int LAST_REASON = 7;
    private static final int ALL_MARKS = 15;
    private static final int DOES_NOT_LEAVE = -2;

    private static final int MOST_BRIDGES = 20;
    private static final int BRIDGE_FROM_HOUSE = 0;
    private static final int BRIDGE_TO_HOUSE = 1;
    private static final int BRIDGE_FIRST_DAY = 2;
    private static final int BRIDGE_LAST_DAY = 3;
    private static final int BRIDGE_COLUMNS = 4;

    private static final int MOST_ENTRIES = 200;
    private static final int ENTRY_COLUMNS = 6;
    private static final int CROSSED = 0;
    private static final int TURNED_BACK = 1;
    private static final int CROSSING_REFUSED = 2;
    private static final int TURNING_BACK_REFUSED = 3;

    private final People people;
    private final Houses houses;
    private final Names names;
    private final Rows bridges;
    private final Rows entries;
    private int today;

    public OtherNames() {
        people = new People();
        houses = new Houses();
        names = new Names(people);
        bridges = new Rows(MOST_BRIDGES, BRIDGE_COLUMNS);
        entries = new Rows(MOST_ENTRIES, ENTRY_COLUMNS);
        today = 0;
    }

    public int person(int a, int b, int c, int d) {
        return people.add(a, b, c, d);
    }

    public boolean mark(int p, int m, int n) {
        return people.setMark(p, m, n);
    }

    public int house(int kind, int span, int seed, int reasons, int least) {
        return houses.add(kind, span, seed, reasons, least);
    }

    public boolean day(int n) {
        if (!isDay(n) || n < today) {
            return false;
        }
        today = n;
        return true;
    }

    public boolean one(int a, int b) {
        return people.join(a, b);
    }

    public boolean part(int p) {
        return people.leave(p);
    }

    public boolean strike(int p) {
        return people.strikeOut(p);
    }

    public int name(int h, int p) {
        if (!houses.isThere(h) || !people.isThere(p) || people.isStruckOut(p)) {
            return NONE;
        }
        return nameIn(h, p);
    }

    public int leads(int h, int name) {
        int row = names.find(h, name);
        return row == NONE ? NONE : names.nameAt(names.leadsTo(row));
    }

    public boolean bridge(int h, int g, int from, int to) {
        if (!areTwoHouses(h, g) || !isDay(from) || !isDay(to) || from > to) {
            return false;
        }
        int row = bridges.addRow();
        if (row == NONE) {
            return false;
        }
        bridges.put(row, BRIDGE_FROM_HOUSE, h);
        bridges.put(row, BRIDGE_TO_HOUSE, g);
        bridges.put(row, BRIDGE_FIRST_DAY, from);
        bridges.put(row, BRIDGE_LAST_DAY, to);
        return true;
    }

    public int holds(int h, int g, int day) {
        if (!areTwoHouses(h, g) || !isDay(day)) {
            return NONE;
        }
        return oneIf(isBridged(h, g, day));
    }

    public int cross(int h, int g, int name, int hand) {
        // A crossing that can't be put on record must not happen either.
        if (!houses.isThere(h) || !houses.isThere(g) || !isHand(hand) || entries.isFull()) {
            return NONE;
        }
        int answer = crossWith(h, g, name);
        enter(answer == NONE ? CROSSING_REFUSED : CROSSED, h, name, hand, NONE);
        return answer;
    }

    public int back(int h, int name, int reason, int a, int b) {
        if (!houses.isThere(h) || !isReason(reason) || !isHand(a) || !isHand(b) || entries.isFull()) {
            return NONE;
        }
        boolean allowed = a != b && houses.reasonCounts(h, reason) && !houses.isLost(h);
        int answer = allowed ? headBehind(h, name) : NONE;
        enter(answer == NONE ? TURNING_BACK_REFUSED : TURNED_BACK, h, name, a, b);
        return answer;
    }

    public boolean lose(int h) {
        if (!houses.isThere(h) || houses.isLost(h)) {
            return false;
        }
        houses.setLost(h, true);
        return true;
    }

    public boolean anew(int h, int seed) {
        if (!houses.isThere(h) || !houses.isLost(h) || houses.seedOf(h) != seed) {
            return false;
        }
        houses.setLost(h, false);
        return true;
    }

    public int joins(int h, int g, int marks) {
        if (!areTwoHouses(h, g) || !areMarks(marks)) {
            return NONE;
        }
        int knownToH = names.knownTo(h);
        int knownToG = names.knownTo(g);
        int joined = 0;
        for (int p = 0; p < People.MOST; p++) {
            boolean aloneInBoth = people.groupSize(knownToH, p, marks) == 1
                    && people.groupSize(knownToG, p, marks) == 1;
            if (aloneInBoth) {
                joined++;
            }
        }
        return joined;
    }

    public int least(int h, int marks) {
        if (!houses.isThere(h) || !areMarks(marks)) {
            return NONE;
        }
        int known = names.knownTo(h);
        int smallest = Integer.bitCount(known);
        for (int p = 0; p < People.MOST; p++) {
            int size = people.groupSize(known, p, marks);
            if (size != 0 && size < smallest) {
                smallest = size;
            }
        }
        return smallest;
    }

    public int count(int h, int m, int n) {
        if (!houses.isThere(h) || !People.isMark(m) || !People.isMarkNumber(n)) {
            return NONE;
        }
        int known = names.knownTo(h);
        int having = people.countHaving(known, m, n);
        int others = Integer.bitCount(known) - having;
        // The others are held back too: whoever knows the whole could tell them from this count.
        if (isTooSmall(h, having) || isTooSmall(h, others)) {
            return DOES_NOT_LEAVE;
        }
        return having;
    }

    public int record(int i, int what) {
        return entries.at(i, what);
    }

    public int given(int i, int what) {
        return names.cell(i, what);
    }

    public int look(int p, int what) {
        if (!people.isThere(p)) {
            return NONE;
        }
        switch (what) {
            case 0:
                return people.headOf(p);
            case 1:
                return people.holderOf(p);
            case 2:
                return oneIf(people.isStruckOut(p));
            case 3:
                return names.countOwnedBy(p);
            default:
                return people.markOf(p, what - 4);
        }
    }

    public int tell(int what) {
        switch (what) {
            case 0:
                return people.size();
            case 1:
                return houses.size();
            case 2:
                return today;
            case 3:
                return names.size();
            case 4:
                return entries.size();
            case 5:
                return bridges.size();
            default:
                return tellOfHouse(what / 10, what % 10);
        }
    }

    private int tellOfHouse(int what, int h) {
        if (!houses.isThere(h)) {
            return NONE;
        }
        switch (what) {
            case 1:
                return names.countGivenBy(h);
            case 2:
                return Integer.bitCount(names.knownTo(h));
            case 3:
                return oneIf(houses.isLost(h));
            default:
                return NONE;
        }
    }

    private int nameIn(int h, int p) {
        int k = names.countGivenBy(h) + 1;
        int spanNumber = houses.spanNumber(h, today, k);
        int head = people.headOf(p);
        int row = names.firstFor(h, spanNumber, head);
        if (row == NONE) {
            row = names.add(h, houses.nameNumber(h, k), head, today, spanNumber);
        }
        return names.nameAt(row);
    }

    private int crossWith(int h, int g, int name) {
        int row = names.find(h, name);
        if (row == NONE || houses.isLost(h) || !isBridged(h, g, today)) {
            return NONE;
        }
        int owner = names.ownerAt(row);
        boolean outdated = houses.isSpanned(h) && names.spanNumberAt(row) != houses.spanNumber(h, today, 0);
        return outdated || people.isStruckOut(owner) ? NONE : nameIn(g, owner);
    }

    private int headBehind(int h, int name) {
        int row = names.find(h, name);
        if (row == NONE || people.isStruckOut(names.ownerAt(row))) {
            return NONE;
        }
        return people.headOf(names.ownerAt(row));
    }

    private void enter(int which, int h, int name, int firstHand, int secondHand) {
        int row = entries.addRow();
        entries.put(row, 0, which);
        entries.put(row, 1, h);
        entries.put(row, 2, name);
        entries.put(row, 3, firstHand);
        entries.put(row, 4, secondHand);
        entries.put(row, 5, today);
    }

    private boolean isBridged(int h, int g, int day) {
        for (int i = 0; i < bridges.size(); i++) {
            boolean joinsThem = bridges.at(i, BRIDGE_FROM_HOUSE) == h && bridges.at(i, BRIDGE_TO_HOUSE) == g;
            if (joinsThem && bridges.at(i, BRIDGE_FIRST_DAY) <= day && day <= bridges.at(i, BRIDGE_LAST_DAY)) {
                return true;
            }
        }
        return false;
    }

    private boolean isTooSmall(int h, int number) {
        return number != 0 && number < houses.leastOf(h);
    }

    private boolean areTwoHouses(int h, int g) {
        return houses.isThere(h) && houses.isThere(g) && h != g;
    }

    private static boolean isDay(int n) {
        return n >= 0 && n <= LAST_DAY;
    }

    private static boolean isHand(int hand) {
        return hand >= 0 && hand <= LAST_HAND;
    }

    private static boolean isReason(int reason) {
        return reason >= 0 && reason <= LAST_REASON;
    }

    private static boolean areMarks(int marks) {
        return marks >= 0 && marks <= ALL_MARKS;
    }

    private static int oneIf(boolean yes) {
        return yes ? 1 : 0;
    }

    /** A table with a limit; outside of what was added there is NONE, so no index can go astray. */
    private static final class Rows {
        private final int most;
        private final int width;
        private final int[] cells;
        private int size;

        Rows(int most, int width) {
            this.most = Math.max(0, most);
            this.width = Math.max(0, width);
            this.cells = new int[this.most * this.width];
            this.size = 0;
        }

        int size() {
            return size;
        }

        boolean isFull() {
            return size >= most;
        }

        boolean isThere(int row) {
            return row >= 0 && row < size;
        }

        int addRow() {
            if (isFull()) {
                return NONE;
            }
            size++;
            return size - 1;
        }

        int at(int row, int column) {
            return hasCell(row, column) ? cells[row * width + column] : NONE;
        }

        void put(int row, int column, int value) {
            if (hasCell(row, column)) {
                cells[row * width + column] = value;
            }
        }

        private boolean hasCell(int row, int column) {
            return row >= 0 && row < size && column >= 0 && column < width;
        }
    }

    /** The people with their marks, who is in whom, and who is struck out. */
    private static final class People {
        static final int MOST = 24;
        private static final int MARKS = 4;
        private static final int LAST_MARK_NUMBER = 7;
        private static final int HOLDER = 4;
        private static final int STRUCK_OUT = 5;
        private static final int COLUMNS = 6;

        private final Rows rows;

        People() {
            rows = new Rows(MOST, COLUMNS);
        }

        static boolean isMark(int m) {
            return m >= 0 && m < MARKS;
        }

        static boolean isMarkNumber(int n) {
            return n >= 0 && n <= LAST_MARK_NUMBER;
        }

        int size() {
            return rows.size();
        }

        boolean isThere(int p) {
            return rows.isThere(p);
        }

        int add(int a, int b, int c, int d) {
            if (!isMarkNumber(a) || !isMarkNumber(b) || !isMarkNumber(c) || !isMarkNumber(d)) {
                return NONE;
            }
            int p = rows.addRow();
            rows.put(p, 0, a);
            rows.put(p, 1, b);
            rows.put(p, 2, c);
            rows.put(p, 3, d);
            rows.put(p, HOLDER, NONE);
            rows.put(p, STRUCK_OUT, 0);
            return p;
        }

        boolean setMark(int p, int m, int n) {
            if (!isThere(p) || !isMark(m) || !isMarkNumber(n)) {
                return false;
            }
            rows.put(p, m, n);
            return true;
        }

        int markOf(int p, int m) {
            return isMark(m) ? rows.at(p, m) : NONE;
        }

        int holderOf(int p) {
            return rows.at(p, HOLDER);
        }

        int headOf(int p) {
            int head = p;
            // Only heads go into one another, so a chain never holds anybody twice.
            for (int step = 0; step < MOST && rows.at(head, HOLDER) != NONE; step++) {
                head = rows.at(head, HOLDER);
            }
            return head;
        }

        boolean isStruckOut(int p) {
            return rows.at(p, STRUCK_OUT) == 1;
        }

        boolean join(int first, int second) {
            if (first == second || !isHead(first) || !isHead(second)) {
                return false;
            }
            rows.put(second, HOLDER, first);
            // Being struck out is caught by whoever is one with them, and outlasts the parting.
            if (isStruckOut(first) || isStruckOut(second)) {
                strikeOutAllUnder(first);
            }
            return true;
        }

        boolean leave(int p) {
            if (holderOf(p) == NONE) {
                return false;
            }
            rows.put(p, HOLDER, NONE);
            return true;
        }

        boolean strikeOut(int p) {
            if (!isThere(p) || isStruckOut(p)) {
                return false;
            }
            strikeOutAllUnder(headOf(p));
            return true;
        }

        int groupSize(int known, int p, int marks) {
            if (!isAmong(known, p)) {
                return 0;
            }
            int alike = 0;
            for (int q = 0; q < MOST; q++) {
                if (isAmong(known, q) && areAlike(p, q, marks)) {
                    alike++;
                }
            }
            return alike;
        }

        int countHaving(int known, int m, int n) {
            int having = 0;
            for (int p = 0; p < MOST; p++) {
                if (isAmong(known, p) && markOf(p, m) == n) {
                    having++;
                }
            }
            return having;
        }

        private boolean isHead(int p) {
            return isThere(p) && holderOf(p) == NONE;
        }

        private void strikeOutAllUnder(int head) {
            for (int p = 0; p < MOST; p++) {
                if (isThere(p) && headOf(p) == head) {
                    rows.put(p, STRUCK_OUT, 1);
                }
            }
        }

        private boolean areAlike(int p, int q, int marks) {
            for (int m = 0; m < MARKS; m++) {
                if (isAmong(marks, m) && markOf(p, m) != markOf(q, m)) {
                    return false;
                }
            }
            return true;
        }

        private static boolean isAmong(int bits, int bit) {
            return ((bits >> bit) & 1) == 1;
        }
    }

    /** The houses: how each one names, and whether its book is there. */
    private static final class Houses {
        private static final int MOST = 5;
        private static final int LASTING = 0;
        private static final int SPANNED = 1;
        private static final int ONCE = 2;
        private static final int LONGEST_SPAN = 365;
        private static final int PRIME = 9973;
        private static final int ALL_REASONS = 255;
        private static final int GREATEST_LEAST = 24;

        private static final int KIND = 0;
        private static final int SPAN = 1;
        private static final int SEED = 2;
        private static final int REASONS = 3;
        private static final int LEAST = 4;
        private static final int LOST = 5;
        private static final int COLUMNS = 6;

        private final Rows rows;

        Houses() {
            rows = new Rows(MOST, COLUMNS);
        }

        int size() {
            return rows.size();
        }

        boolean isThere(int h) {
            return rows.isThere(h);
        }

        int add(int kind, int span, int seed, int reasons, int least) {
            if (kind < LASTING || kind > ONCE || span < 1 || span > LONGEST_SPAN || seed < 1 || seed >= PRIME) {
                return NONE;
            }
            if (reasons < 0 || reasons > ALL_REASONS || least < 0 || least > GREATEST_LEAST) {
                return NONE;
            }
            int h = rows.addRow();
            rows.put(h, KIND, kind);
            rows.put(h, SPAN, span);
            rows.put(h, SEED, seed);
            rows.put(h, REASONS, reasons);
            rows.put(h, LEAST, least);
            rows.put(h, LOST, 0);
            return h;
        }

        boolean isSpanned(int h) {
            return rows.at(h, KIND) == SPANNED;
        }

        int seedOf(int h) {
            return rows.at(h, SEED);
        }

        int leastOf(int h) {
            return rows.at(h, LEAST);
        }

        boolean reasonCounts(int h, int reason) {
            return ((rows.at(h, REASONS) >> reason) & 1) == 1;
        }

        boolean isLost(int h) {
            return rows.at(h, LOST) == 1;
        }

        void setLost(int h, boolean lost) {
            rows.put(h, LOST, lost ? 1 : 0);
        }

        int nameNumber(int h, int k) {
            return seedOf(h) * k % PRIME;
        }

        int spanNumber(int h, int day, int k) {
            if (rows.at(h, KIND) == ONCE) {
                return k;
            }
            int span = rows.at(h, SPAN);
            return isSpanned(h) && span > 0 ? day / span : 0;
        }
    }

    /** All names in the order in which they were given. */
    private static final class Names {
        private static final int MOST = 200;
        private static final int HOUSE = 0;
        private static final int NAME = 1;
        private static final int OWNER = 2;
        private static final int DAY = 3;
        private static final int SPAN_NUMBER = 4;
        private static final int COLUMNS = 5;

        private final Rows rows;
        private final People people;

        Names(People people) {
            this.rows = new Rows(MOST, COLUMNS);
            this.people = people;
        }

        int size() {
            return rows.size();
        }

        int cell(int row, int column) {
            return rows.at(row, column);
        }

        int nameAt(int row) {
            return rows.at(row, NAME);
        }

        int ownerAt(int row) {
            return rows.at(row, OWNER);
        }

        int spanNumberAt(int row) {
            return rows.at(row, SPAN_NUMBER);
        }

        int add(int h, int name, int owner, int day, int spanNumber) {
            int row = rows.addRow();
            rows.put(row, HOUSE, h);
            rows.put(row, NAME, name);
            rows.put(row, OWNER, owner);
            rows.put(row, DAY, day);
            rows.put(row, SPAN_NUMBER, spanNumber);
            return row;
        }

        int find(int h, int name) {
            for (int row = 0; row < rows.size(); row++) {
                if (rows.at(row, HOUSE) == h && nameAt(row) == name) {
                    return row;
                }
            }
            return NONE;
        }

        int firstFor(int h, int spanNumber, int head) {
            for (int row = 0; row < rows.size(); row++) {
                boolean ofThatSpan = rows.at(row, HOUSE) == h && spanNumberAt(row) == spanNumber;
                if (ofThatSpan && people.headOf(ownerAt(row)) == head) {
                    return row;
                }
            }
            return NONE;
        }

        int leadsTo(int row) {
            return firstFor(rows.at(row, HOUSE), spanNumberAt(row), people.headOf(ownerAt(row)));
        }

        int countGivenBy(int h) {
            return countWith(HOUSE, h);
        }

        int countOwnedBy(int p) {
            return countWith(OWNER, p);
        }

        /** The heads that a house knows, a bit each. */
        int knownTo(int h) {
            int known = 0;
            for (int row = 0; row < rows.size(); row++) {
                int head = people.headOf(ownerAt(row));
                if (rows.at(row, HOUSE) == h && !people.isStruckOut(head)) {
                    known |= 1 << head;
                }
            }
            return known;
        }

        private int countWith(int column, int value) {
            int count = 0;
            for (int row = 0; row < rows.size(); row++) {
                if (rows.at(row, column) == value) {
                    count++;
                }
            }
            return count;
        }
    }
}
