/** Stores, their lots, and all that comes to them and leaves them; DOC.md says what each call answers. */
public final class StockRows2 {
    private static final int STORES = 8;
    private static final int KINDS = 10;
    private static final int PERSONS = 20;
    private static final int KITS = 5;
    private static final int LOTS = 60;
    private static final int MOVES = 60;
    private static final int ORDERS = 80;
    private static final int EMERGENCIES = 20;
    private static final int DIFFERENCES = 80;
    private static final int TABLE_ROWS = 10;

    private static final int LAST_DAY = 9_999;
    private static final int MOST_THERE = 9_999;
    private static final int MOST_MOVE_DAYS = 30;
    private static final int MOST_TICK_DAYS = 1_000;
    private static final int MOST_REASON = 99;
    private static final int MOST_PAPER = 9_999;
    private static final int MOST_PARTS = 20;
    private static final int MOST_DIP = 99_999;

    // The columns of lots, orders and differences stand in the order in which lotAt, order and difference tell them.
    private static final int LOT_KIND = 0;
    private static final int LOT_END = 1;
    private static final int LOT_OUT = 2;
    private static final int LOT_WASTE = 3;
    private static final int LOT_PAPER = 4;
    private static final int LOT_IN_ALL_STORES = 5;

    private static final int MOVE_TO = 0;
    private static final int MOVE_LOT = 1;
    private static final int MOVE_N = 2;
    private static final int MOVE_ARRIVAL = 3;
    private static final int MOVE_OPEN = 4;

    private static final int ORDER_STORE = 0;
    private static final int ORDER_KIND = 1;
    private static final int ORDER_N = 2;
    private static final int ORDER_OPEN = 4;

    private static final int EMERGENCY_STORE = 0;
    private static final int EMERGENCY_KIND = 1;
    private static final int EMERGENCY_N = 2;
    private static final int EMERGENCY_PERSON = 3;
    private static final int EMERGENCY_OPEN = 4;

    private static final int OPEN = 1;
    private static final int CLOSED = 0;

    private final Rows lotRows = new Rows(LOTS);
    private final Rows moveRows = new Rows(MOVES);
    private final Rows orderRows = new Rows(ORDERS);
    private final Rows emergencyRows = new Rows(EMERGENCIES);
    private final Rows differenceRows = new Rows(DIFFERENCES);
    private final Table table = new Table();
    private final int[] there = new int[STORES * LOTS];
    // No level is held as 0 and 0: nothing is ever below 0, so neither leads to an order.
    private final int[] least = new int[STORES * KINDS];
    private final int[] most = new int[STORES * KINDS];
    private final int[] parts = new int[KITS * KINDS];
    private int stores;
    private int day;

    public StockRows2() {
    }

    public int store() throws UnsupportedOperationException {
        if (stores >= STORES) {
            throw new UnsupportedOperationException("no room for a store");
        }
        stores++;
        return stores - 1;
    }

    public int lot(int kind, int end)
            throws IllegalArgumentException, IndexOutOfBoundsException, UnsupportedOperationException {
        needKind(kind);
        needRange(end, 0, LAST_DAY);
        needRoom(lotRows);
        return lotRows.add(kind, end, 0, 0, 0);
    }

    public int bring(int store, int lot, int n)
            throws IllegalArgumentException, IndexOutOfBoundsException, UnsupportedOperationException {
        needStore(store);
        needLot(lot);
        needRange(n, 1, MOST_THERE);
        needPlace(store, lot, n);
        change(store, lot, n);
        return there[place(store, lot)];
    }

    public int move(int from, int to, int lot, int n, int days)
            throws IllegalArgumentException, IndexOutOfBoundsException, IllegalStateException,
            UnsupportedOperationException {
        needStore(from);
        needStore(to);
        if (from == to) {
            throw new IllegalArgumentException("from and to are one store");
        }
        needLot(lot);
        needRange(n, 1, MOST_THERE);
        needRange(days, 0, MOST_MOVE_DAYS);
        needThere(from, lot, n);
        needRoom(moveRows);
        change(from, lot, -n);
        int number = moveRows.add(to, lot, n, day + days, OPEN);
        if (days == 0) {
            arrive(number);
        }
        return number;
    }

    public int use(int store, int kind, int n)
            throws IllegalArgumentException, IndexOutOfBoundsException, IllegalStateException {
        needStore(store);
        needKind(kind);
        needRange(n, 1, MOST_THERE);
        int good = inStore(store, kind, true);
        if (good < n) {
            throw new IllegalStateException("less good ones are there");
        }
        take(store, kind, n);
        return good - n;
    }

    public int sum(int store, int kind, int what) throws IllegalArgumentException {
        needStore(store);
        needKind(kind);
        switch (what) {
            case 0:
                return inStore(store, kind, true);
            case 1:
                return inStore(store, kind, false);
            case 2:
                return onTheWay(store, kind, false);
            default:
                throw new IllegalArgumentException("no such what");
        }
    }

    public int has(int store, int lot) throws IllegalArgumentException {
        needStore(store);
        needLot(lot);
        return there[place(store, lot)];
    }

    public void level(int store, int kind, int least, int most)
            throws IllegalArgumentException, IndexOutOfBoundsException {
        needStore(store);
        needKind(kind);
        needRange(most, 0, MOST_THERE);
        needRange(least, 0, most);
        this.least[pair(store, kind)] = least;
        this.most[pair(store, kind)] = most;
    }

    public int orders() {
        int before = orderRows.made();
        for (int store = 0; store < stores; store++) {
            for (int kind = 0; kind < KINDS; kind++) {
                orderByLevel(store, kind);
            }
        }
        return orderRows.made() - before;
    }

    public int order(int i, int what) throws IllegalArgumentException {
        return cell(orderRows, i, what);
    }

    public int deliver(int order, int lot) throws IllegalArgumentException, IllegalStateException {
        needRow(orderRows, order);
        needLot(lot);
        if (orderRows.at(order, ORDER_OPEN) != OPEN) {
            throw new IllegalStateException("the order is not open");
        }
        if (orderRows.at(order, ORDER_KIND) != lotRows.at(lot, LOT_KIND)) {
            throw new IllegalStateException("the lot is of another kind");
        }
        int store = orderRows.at(order, ORDER_STORE);
        orderRows.put(order, ORDER_OPEN, CLOSED);
        addUpToMost(store, lot, orderRows.at(order, ORDER_N));
        return there[place(store, lot)];
    }

    public int emergency(int store, int kind, int n, int person)
            throws IllegalArgumentException, IndexOutOfBoundsException, UnsupportedOperationException {
        needStore(store);
        needKind(kind);
        needPerson(person);
        needRange(n, 1, MOST_THERE);
        needRoom(emergencyRows);
        return emergencyRows.add(store, kind, n, person, OPEN);
    }

    public int second(int emergency, int person)
            throws IllegalArgumentException, IllegalStateException, UnsupportedOperationException {
        needRow(emergencyRows, emergency);
        needPerson(person);
        if (emergencyRows.at(emergency, EMERGENCY_OPEN) != OPEN) {
            throw new IllegalStateException("it had the word of another person");
        }
        if (emergencyRows.at(emergency, EMERGENCY_PERSON) == person) {
            throw new IllegalStateException("it is the same person");
        }
        needRoom(orderRows);
        emergencyRows.put(emergency, EMERGENCY_OPEN, CLOSED);
        return addOrder(emergencyRows.at(emergency, EMERGENCY_STORE),
                emergencyRows.at(emergency, EMERGENCY_KIND), emergencyRows.at(emergency, EMERGENCY_N));
    }

    public int count(int store, int lot, int n, int reason)
            throws IllegalArgumentException, IndexOutOfBoundsException, UnsupportedOperationException {
        needStore(store);
        needLot(lot);
        needRange(n, 0, MOST_THERE);
        needRange(reason, 1, MOST_REASON);
        int difference = n - there[place(store, lot)];
        if (difference == 0) {
            return 0;
        }
        needRoom(differenceRows);
        change(store, lot, difference);
        differenceRows.add(store, lot, difference, reason, day);
        return difference;
    }

    public int difference(int i, int what) throws IllegalArgumentException {
        return cell(differenceRows, i, what);
    }

    public void kit(int kit, int kind, int n) throws IllegalArgumentException, IndexOutOfBoundsException {
        needKit(kit);
        needKind(kind);
        needRange(n, 0, MOST_PARTS);
        parts[pair(kit, kind)] = n;
    }

    public int give(int store, int kit) throws IllegalArgumentException, IllegalStateException {
        needStore(store);
        needKit(kit);
        if (!hasParts(kit)) {
            throw new IllegalStateException("the kit has no parts");
        }
        int lacking = lackingKind(store, kit);
        if (lacking >= 0) {
            return lacking;
        }
        for (int kind = 0; kind < KINDS; kind++) {
            take(store, kind, parts[pair(kit, kind)]);
        }
        return -1;
    }

    public boolean back(int store, int lot, int n)
            throws IllegalArgumentException, IndexOutOfBoundsException, UnsupportedOperationException {
        needStore(store);
        needLot(lot);
        needRange(n, 1, MOST_THERE);
        if (lotRows.at(lot, LOT_OUT) < n) {
            return false;
        }
        needPlace(store, lot, n);
        lotRows.put(lot, LOT_OUT, lotRows.at(lot, LOT_OUT) - n);
        change(store, lot, n);
        return true;
    }

    public int waste(int store, int lot, int n, int paper)
            throws IllegalArgumentException, IndexOutOfBoundsException, IllegalStateException {
        needStore(store);
        needLot(lot);
        needRange(n, 1, MOST_THERE);
        needRange(paper, 1, MOST_PAPER);
        needThere(store, lot, n);
        change(store, lot, -n);
        lotRows.put(lot, LOT_WASTE, lotRows.at(lot, LOT_WASTE) + n);
        lotRows.put(lot, LOT_PAPER, paper);
        return lotRows.at(lot, LOT_WASTE);
    }

    public int lotAt(int lot, int what) throws IllegalArgumentException {
        needLot(lot);
        if (what == LOT_IN_ALL_STORES) {
            return inAllStores(lot);
        }
        return cell(lotRows, lot, what);
    }

    public int row(int height, int litres)
            throws IndexOutOfBoundsException, IllegalStateException, UnsupportedOperationException {
        needRange(height, 0, MOST_DIP);
        needRange(litres, 0, MOST_DIP);
        if (!table.isBelow(height, litres)) {
            throw new IllegalStateException("height and litres do not rise");
        }
        if (table.isFull()) {
            throw new UnsupportedOperationException("no room for a row");
        }
        return table.add(height, litres);
    }

    public int dip(int height) throws IndexOutOfBoundsException {
        needRange(height, 0, MOST_DIP);
        return table.litresAt(height);
    }

    public int tick(int days) throws IndexOutOfBoundsException {
        needRange(days, 1, MOST_TICK_DAYS);
        needRange(day + days, 0, LAST_DAY);
        day += days;
        // One pass does for all the days: arrivals only add up to a bound, so their order leaves no trace.
        int arrived = 0;
        for (int move = 0; move < moveRows.made(); move++) {
            if (moveRows.at(move, MOVE_OPEN) == OPEN && moveRows.at(move, MOVE_ARRIVAL) <= day) {
                arrive(move);
                arrived++;
            }
        }
        return arrived;
    }

    private void needStore(int store) {
        if (store < 0 || store >= stores) {
            throw new IllegalArgumentException("no such store");
        }
    }

    private void needLot(int lot) {
        needRow(lotRows, lot);
    }

    private static void needRow(Rows rows, int i) {
        if (!rows.isMade(i)) {
            throw new IllegalArgumentException("there is none such");
        }
    }

    private static void needKind(int kind) {
        if (kind < 0 || kind >= KINDS) {
            throw new IllegalArgumentException("no such kind");
        }
    }

    private static void needPerson(int person) {
        if (person < 0 || person >= PERSONS) {
            throw new IllegalArgumentException("no such person");
        }
    }

    private static void needKit(int kit) {
        if (kit < 0 || kit >= KITS) {
            throw new IllegalArgumentException("no such kit");
        }
    }

    private static void needRange(int value, int lowest, int highest) {
        if (value < lowest || value > highest) {
            throw new IndexOutOfBoundsException("outside of its range");
        }
    }

    private void needThere(int store, int lot, int n) {
        if (there[place(store, lot)] < n) {
            throw new IllegalStateException("less are there");
        }
    }

    private void needPlace(int store, int lot, int n) {
        if (there[place(store, lot)] + n > MOST_THERE) {
            throw new UnsupportedOperationException("more than a store can have of a lot");
        }
    }

    private static void needRoom(Rows rows) {
        if (rows.isFull()) {
            throw new UnsupportedOperationException("no room for one more");
        }
    }

    private static int cell(Rows rows, int i, int what) {
        needRow(rows, i);
        if (!rows.isColumn(what)) {
            throw new IllegalArgumentException("no such what");
        }
        return rows.at(i, what);
    }

    private static int place(int store, int lot) {
        return store * LOTS + lot;
    }

    private static int pair(int storeOrKit, int kind) {
        return storeOrKit * KINDS + kind;
    }

    private void change(int store, int lot, int by) {
        there[place(store, lot)] += by;
    }

    private void addUpToMost(int store, int lot, int n) {
        int at = place(store, lot);
        there[at] = Math.min(MOST_THERE, there[at] + n);
    }

    private void arrive(int move) {
        moveRows.put(move, MOVE_OPEN, CLOSED);
        addUpToMost(moveRows.at(move, MOVE_TO), moveRows.at(move, MOVE_LOT), moveRows.at(move, MOVE_N));
    }

    private boolean isGoodOn(int lot, int someDay) {
        return someDay <= lotRows.at(lot, LOT_END);
    }

    private int inStore(int store, int kind, boolean good) {
        int n = 0;
        for (int lot = 0; lot < lotRows.made(); lot++) {
            if (lotRows.at(lot, LOT_KIND) == kind && isGoodOn(lot, day) == good) {
                n += there[place(store, lot)];
            }
        }
        return n;
    }

    private int inAllStores(int lot) {
        int n = 0;
        for (int store = 0; store < stores; store++) {
            n += there[place(store, lot)];
        }
        return n;
    }

    private int onTheWay(int store, int kind, boolean onlyGoodOnes) {
        int n = 0;
        for (int move = 0; move < moveRows.made(); move++) {
            int lot = moveRows.at(move, MOVE_LOT);
            if (moveRows.at(move, MOVE_OPEN) == OPEN && moveRows.at(move, MOVE_TO) == store
                    && lotRows.at(lot, LOT_KIND) == kind
                    && (!onlyGoodOnes || isGoodOn(lot, moveRows.at(move, MOVE_ARRIVAL)))) {
                n += moveRows.at(move, MOVE_N);
            }
        }
        return n;
    }

    private int inOpenOrders(int store, int kind) {
        int n = 0;
        for (int order = 0; order < orderRows.made(); order++) {
            if (orderRows.at(order, ORDER_OPEN) == OPEN && orderRows.at(order, ORDER_STORE) == store
                    && orderRows.at(order, ORDER_KIND) == kind) {
                n += orderRows.at(order, ORDER_N);
            }
        }
        return n;
    }

    private void orderByLevel(int store, int kind) {
        int at = pair(store, kind);
        if (least[at] == 0 || orderRows.isFull()) {
            return;
        }
        int expected = inStore(store, kind, true) + onTheWay(store, kind, true) + inOpenOrders(store, kind);
        if (expected < least[at]) {
            addOrder(store, kind, most[at] - expected);
        }
    }

    private int addOrder(int store, int kind, int n) {
        return orderRows.add(store, kind, n, day, OPEN);
    }

    private void take(int store, int kind, int n) {
        int needed = n;
        for (int round = 0; round < LOTS && needed > 0; round++) {
            int lot = firstToTake(store, kind);
            if (lot < 0) {
                return;
            }
            int taken = Math.min(needed, there[place(store, lot)]);
            change(store, lot, -taken);
            lotRows.put(lot, LOT_OUT, lotRows.at(lot, LOT_OUT) + taken);
            needed -= taken;
        }
    }

    private int firstToTake(int store, int kind) {
        int first = -1;
        for (int lot = 0; lot < lotRows.made(); lot++) {
            if (lotRows.at(lot, LOT_KIND) == kind && isGoodOn(lot, day) && there[place(store, lot)] > 0
                    && (first < 0 || isTakenBefore(store, lot, first))) {
                first = lot;
            }
        }
        return first;
    }

    // Lots are looked at by rising numbers, so one that is equal to an earlier one stays behind it.
    private boolean isTakenBefore(int store, int lot, int earlier) {
        int end = lotRows.at(lot, LOT_END);
        int earlierEnd = lotRows.at(earlier, LOT_END);
        if (end != earlierEnd) {
            return end < earlierEnd;
        }
        return there[place(store, lot)] < there[place(store, earlier)];
    }

    private boolean hasParts(int kit) {
        for (int kind = 0; kind < KINDS; kind++) {
            if (parts[pair(kit, kind)] > 0) {
                return true;
            }
        }
        return false;
    }

    private int lackingKind(int store, int kit) {
        for (int kind = 0; kind < KINDS; kind++) {
            int needed = parts[pair(kit, kind)];
            if (needed > 0 && inStore(store, kind, true) < needed) {
                return kind;
            }
        }
        return -1;
    }

    /** Numbered rows of five cells each; who calls has looked at the row's number, the column and the room. */
    private static final class Rows {
        private static final int WIDTH = 5;

        private final int room;
        private final int[] cells;
        private int made;

        Rows(int wantedRoom) {
            room = Math.max(0, wantedRoom);
            cells = new int[room * WIDTH];
        }

        int made() {
            return made;
        }

        boolean isFull() {
            return made >= room;
        }

        boolean isMade(int i) {
            return i >= 0 && i < made;
        }

        boolean isColumn(int column) {
            return column >= 0 && column < WIDTH;
        }

        int at(int i, int column) {
            return cells[i * WIDTH + column];
        }

        void put(int i, int column, int value) {
            cells[i * WIDTH + column] = value;
        }

        int add(int first, int second, int third, int fourth, int fifth) {
            int i = made;
            put(i, 0, first);
            put(i, 1, second);
            put(i, 2, third);
            put(i, 3, fourth);
            put(i, 4, fifth);
            made++;
            return i;
        }
    }

    /** Heights with their litres, both rising from row to row. */
    private static final class Table {
        private final int[] heights = new int[TABLE_ROWS];
        private final int[] litres = new int[TABLE_ROWS];
        private int made;

        boolean isFull() {
            return made >= TABLE_ROWS;
        }

        boolean isBelow(int height, int litre) {
            return made == 0 || heights[made - 1] < height && litres[made - 1] < litre;
        }

        int add(int height, int litre) {
            heights[made] = height;
            litres[made] = litre;
            made++;
            return made;
        }

        int litresAt(int height) {
            int lower = lastNotAbove(height);
            if (lower < 0) {
                return -1;
            }
            if (heights[lower] == height) {
                return litres[lower];
            }
            return lower + 1 < made ? litresBetween(lower, lower + 1, height) : -1;
        }

        private int lastNotAbove(int height) {
            int last = -1;
            for (int i = 0; i < made; i++) {
                if (heights[i] <= height) {
                    last = i;
                }
            }
            return last;
        }

        private int litresBetween(int lower, int upper, int height) {
            int span = heights[upper] - heights[lower];
            if (span <= 0) {
                return litres[lower];
            }
            // The product of two differences may be near 10,000,000,000: more than an int holds.
            long risen = (long) (litres[upper] - litres[lower]) * (height - heights[lower]) / span;
            return litres[lower] + (int) risen;
        }
    }
}
