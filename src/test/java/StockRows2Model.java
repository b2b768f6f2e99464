import java.util.ArrayList;
import java.util.Comparator;
import java.util.List;
import java.util.Random;
import java.util.stream.IntStream;

/**
 * Random runs of 512 calls on StockRows2 beside a model that follows the document word by word (day by day,
 * with sorted lists), to find what the single promises' tests do not think of. The seeds are fixed.
 */
public final class StockRows2Model {
    private static final int RUNS = 4_000;
    private static final int CALLS = 512;
    private static final int[] PARAMETERS = {0, 2, 3, 5, 3, 3, 2, 4, 0, 2, 2, 4, 2, 4, 2, 3, 2, 3, 4, 2, 2, 1, 1};
    private static final String[] NAMES = {"store", "lot", "bring", "move", "use", "sum", "has", "level", "orders",
        "order", "deliver", "emergency", "second", "count", "difference", "kit", "give", "back", "waste", "lotAt",
        "row", "dip", "tick"};

    public static void main(String[] args) {
        int[] answered = new int[NAMES.length];
        int[] refused = new int[NAMES.length];
        for (int run = 0; run < RUNS; run++) {
            if (!same(run, answered, refused)) {
                System.exit(1);
            }
        }
        for (int call = 0; call < NAMES.length; call++) {
            // A call that is only ever answered or only ever refused would make the comparison hollow.
            boolean neverRefused = NAMES[call].equals("orders");
            if (answered[call] < 1_000 || !neverRefused && refused[call] < 1_000) {
                System.out.println(NAMES[call] + " was answered " + answered[call] + " and refused "
                        + refused[call] + " times: too few");
                System.exit(1);
            }
        }
        System.out.println(RUNS + " random runs answer as the model does");
    }

    private static boolean same(int run, int[] answered, int[] refused) {
        Random random = new Random(run);
        StockRows2 real = new StockRows2();
        Model model = new Model();
        List<String> told = new ArrayList<>();
        for (int i = 0; i < CALLS; i++) {
            int call = i < 12 ? i % 3 : random.nextInt(NAMES.length);
            int[] a = arguments(random, call, run, i);
            String got = real(real, call, a);
            String want = model(model, call, a);
            StringBuilder line = new StringBuilder(NAMES[call]);
            for (int p = 0; p < PARAMETERS[call]; p++) {
                line.append(p == 0 ? "(" : ", ").append(a[p]);
            }
            told.add(line + " -> " + got);
            if (!got.equals(want)) {
                told.forEach(System.out::println);
                System.out.println("run " + run + ": the model answers " + want);
                return false;
            }
            (got.startsWith("throws") ? refused : answered)[call]++;
        }
        return true;
    }

    /** Mostly arguments that are in range, so that a run gets far; runs differ in how large their numbers are. */
    private static int[] arguments(Random random, int call, int run, int i) {
        int kinds = run % 2 == 0 ? 3 : 10;
        int much = run % 3 == 0 ? 9_999 : run % 3 == 1 ? 40 : 6;
        int stores = 4;
        int lots = run % 4 == 0 ? 60 : 8;
        int[] tops;
        switch (NAMES[call]) {
            case "lot": tops = new int[] {kinds, 60}; break;
            case "bring": tops = new int[] {stores, lots, much + 1}; break;
            case "move": tops = new int[] {stores, stores, lots, much / 2 + 2, 31}; break;
            case "use": tops = new int[] {stores, kinds, much + 1}; break;
            case "sum": tops = new int[] {stores, kinds, 3}; break;
            case "has": tops = new int[] {stores, lots}; break;
            case "level": tops = new int[] {stores, kinds, much * 2, much * 3}; break;
            case "order": tops = new int[] {20, 5}; break;
            case "deliver": tops = new int[] {20, lots}; break;
            case "emergency": tops = new int[] {stores, kinds, much + 1, 20}; break;
            case "second": tops = new int[] {20, 20}; break;
            case "count": tops = new int[] {stores, lots, much + 1, 100}; break;
            case "difference": tops = new int[] {20, 5}; break;
            case "kit": tops = new int[] {5, kinds, run % 5 == 0 ? 21 : 4}; break;
            case "give": tops = new int[] {stores, 5}; break;
            case "back": tops = new int[] {stores, lots, much + 1}; break;
            case "waste": tops = new int[] {stores, lots, much + 1, 10_000}; break;
            case "lotAt": tops = new int[] {lots, 6}; break;
            case "row": tops = new int[] {100 + i * 190, 100 + i * 190}; break;
            case "dip": tops = new int[] {100_000}; break;
            case "tick": tops = new int[] {run % 8 == 0 ? 1_001 : 4}; break;
            default: tops = new int[0]; break;
        }
        int[] a = new int[tops.length];
        for (int p = 0; p < tops.length; p++) {
            a[p] = random.nextInt(40) == 0 ? odd(random, tops[p]) : random.nextInt(tops[p]);
        }
        return a;
    }

    private static int odd(Random random, int top) {
        int[] odd = {-1, top, top + 1, 9_999, 10_000, 100_000, Integer.MIN_VALUE, Integer.MAX_VALUE};
        return odd[random.nextInt(odd.length)];
    }

    private static String real(StockRows2 x, int call, int[] a) {
        try {
            switch (NAMES[call]) {
                case "store": return "" + x.store();
                case "lot": return "" + x.lot(a[0], a[1]);
                case "bring": return "" + x.bring(a[0], a[1], a[2]);
                case "move": return "" + x.move(a[0], a[1], a[2], a[3], a[4]);
                case "use": return "" + x.use(a[0], a[1], a[2]);
                case "sum": return "" + x.sum(a[0], a[1], a[2]);
                case "has": return "" + x.has(a[0], a[1]);
                case "level": x.level(a[0], a[1], a[2], a[3]); return "done";
                case "orders": return "" + x.orders();
                case "order": return "" + x.order(a[0], a[1]);
                case "deliver": return "" + x.deliver(a[0], a[1]);
                case "emergency": return "" + x.emergency(a[0], a[1], a[2], a[3]);
                case "second": return "" + x.second(a[0], a[1]);
                case "count": return "" + x.count(a[0], a[1], a[2], a[3]);
                case "difference": return "" + x.difference(a[0], a[1]);
                case "kit": x.kit(a[0], a[1], a[2]); return "done";
                case "give": return "" + x.give(a[0], a[1]);
                case "back": return "" + x.back(a[0], a[1], a[2]);
                case "waste": return "" + x.waste(a[0], a[1], a[2], a[3]);
                case "lotAt": return "" + x.lotAt(a[0], a[1]);
                case "row": return "" + x.row(a[0], a[1]);
                case "dip": return "" + x.dip(a[0]);
                default: return "" + x.tick(a[0]);
            }
        } catch (RuntimeException e) {
            return "throws " + e.getClass().getSimpleName();
        }
    }

    private static String model(Model m, int call, int[] a) {
        try {
            switch (NAMES[call]) {
                case "store": return m.store();
                case "lot": return m.lot(a[0], a[1]);
                case "bring": return m.bring(a[0], a[1], a[2]);
                case "move": return m.move(a[0], a[1], a[2], a[3], a[4]);
                case "use": return m.use(a[0], a[1], a[2]);
                case "sum": return m.sum(a[0], a[1], a[2]);
                case "has": return m.has(a[0], a[1]);
                case "level": return m.level(a[0], a[1], a[2], a[3]);
                case "orders": return m.ordering();
                case "order": return m.order(a[0], a[1]);
                case "deliver": return m.deliver(a[0], a[1]);
                case "emergency": return m.emergency(a[0], a[1], a[2], a[3]);
                case "second": return m.second(a[0], a[1]);
                case "count": return m.count(a[0], a[1], a[2], a[3]);
                case "difference": return m.difference(a[0], a[1]);
                case "kit": return m.kit(a[0], a[1], a[2]);
                case "give": return m.give(a[0], a[1]);
                case "back": return m.back(a[0], a[1], a[2]);
                case "waste": return m.waste(a[0], a[1], a[2], a[3]);
                case "lotAt": return m.lotAt(a[0], a[1]);
                case "row": return m.row(a[0], a[1]);
                case "dip": return m.dip(a[0]);
                default: return m.tick(a[0]);
            }
        } catch (Refused refused) {
            return "throws " + refused.getMessage();
        }
    }

    private static final class Refused extends Exception {
        private static final long serialVersionUID = 1L;

        Refused(String name) {
            super(name);
        }
    }

    private static final class Lot {
        int kind;
        int end;
        int out;
        int waste;
        int paper;
        int[] in = new int[8];
    }

    private static final class Move {
        int to;
        Lot lot;
        int n;
        int arrival;
        boolean arrived;
    }

    private static final class Level {
        int least;
        int most;
    }

    private static final class Model {
        private final List<Lot> lots = new ArrayList<>();
        private final List<Move> moves = new ArrayList<>();
        private final List<int[]> orders = new ArrayList<>();
        private final List<int[]> emergencies = new ArrayList<>();
        private final List<int[]> differences = new ArrayList<>();
        private final List<int[]> table = new ArrayList<>();
        private final Level[][] levels = new Level[8][10];
        private final int[][] kits = new int[5][10];
        private int stores = 0;
        private int day = 0;

        private static void unknownUnless(boolean... all) throws Refused {
            for (boolean one : all) {
                if (!one) {
                    throw new Refused("IllegalArgumentException");
                }
            }
        }

        private static void rangeUnless(boolean... all) throws Refused {
            for (boolean one : all) {
                if (!one) {
                    throw new Refused("IndexOutOfBoundsException");
                }
            }
        }

        private static void stateUnless(boolean... all) throws Refused {
            for (boolean one : all) {
                if (!one) {
                    throw new Refused("IllegalStateException");
                }
            }
        }

        private static void roomUnless(boolean is) throws Refused {
            if (!is) {
                throw new Refused("UnsupportedOperationException");
            }
        }

        private static boolean in(int value, int least, int most) {
            return least <= value && value <= most;
        }

        private boolean isStore(int store) {
            return in(store, 0, stores - 1);
        }

        private static boolean isOf(int i, List<?> list) {
            return in(i, 0, list.size() - 1);
        }

        private static boolean isKind(int kind) {
            return in(kind, 0, 9);
        }

        private int good(int store, int kind) {
            return lots.stream().filter(l -> l.kind == kind && l.end >= day).mapToInt(l -> l.in[store]).sum();
        }

        private int bad(int store, int kind) {
            return lots.stream().filter(l -> l.kind == kind && l.end < day).mapToInt(l -> l.in[store]).sum();
        }

        private void take(int store, int kind, int n) {
            List<Lot> sorted = new ArrayList<>(lots);
            sorted.removeIf(l -> l.kind != kind || l.end < day || l.in[store] < 1);
            sorted.sort(Comparator.<Lot>comparingInt(l -> l.end).thenComparingInt(l -> l.in[store])
                    .thenComparingInt(lots::indexOf));
            int left = n;
            for (Lot lot : sorted) {
                int taken = Math.min(left, lot.in[store]);
                lot.in[store] -= taken;
                lot.out += taken;
                left -= taken;
            }
        }

        private static void arrive(Move move) {
            move.arrived = true;
            move.lot.in[move.to] = Math.min(9_999, move.lot.in[move.to] + move.n);
        }

        String store() throws Refused {
            roomUnless(stores < 8);
            return "" + stores++;
        }

        String lot(int kind, int end) throws Refused {
            unknownUnless(isKind(kind));
            rangeUnless(in(end, 0, 9_999));
            roomUnless(lots.size() < 60);
            Lot lot = new Lot();
            lot.kind = kind;
            lot.end = end;
            lots.add(lot);
            return "" + (lots.size() - 1);
        }

        String bring(int store, int lot, int n) throws Refused {
            unknownUnless(isStore(store), isOf(lot, lots));
            rangeUnless(in(n, 1, 9_999));
            roomUnless(lots.get(lot).in[store] + n <= 9_999);
            return "" + (lots.get(lot).in[store] += n);
        }

        String move(int from, int to, int lot, int n, int days) throws Refused {
            unknownUnless(isStore(from), isStore(to), from != to, isOf(lot, lots));
            rangeUnless(in(n, 1, 9_999), in(days, 0, 30));
            stateUnless(lots.get(lot).in[from] >= n);
            roomUnless(moves.size() < 60);
            Move move = new Move();
            move.to = to;
            move.lot = lots.get(lot);
            move.n = n;
            move.arrival = day + days;
            move.lot.in[from] -= n;
            moves.add(move);
            if (days == 0) {
                arrive(move);
            }
            return "" + (moves.size() - 1);
        }

        String use(int store, int kind, int n) throws Refused {
            unknownUnless(isStore(store), isKind(kind));
            rangeUnless(in(n, 1, 9_999));
            stateUnless(good(store, kind) >= n);
            take(store, kind, n);
            return "" + good(store, kind);
        }

        String sum(int store, int kind, int what) throws Refused {
            unknownUnless(isStore(store), isKind(kind), in(what, 0, 2));
            if (what < 2) {
                return "" + (what == 0 ? good(store, kind) : bad(store, kind));
            }
            return "" + moves.stream().filter(m -> !m.arrived && m.to == store && m.lot.kind == kind)
                    .mapToInt(m -> m.n).sum();
        }

        String has(int store, int lot) throws Refused {
            unknownUnless(isStore(store), isOf(lot, lots));
            return "" + lots.get(lot).in[store];
        }

        String level(int store, int kind, int least, int most) throws Refused {
            unknownUnless(isStore(store), isKind(kind));
            rangeUnless(in(least, 0, 9_999), in(most, 0, 9_999), least <= most);
            levels[store][kind] = new Level();
            levels[store][kind].least = least;
            levels[store][kind].most = most;
            return "done";
        }

        String ordering() {
            int made = 0;
            for (int store = 0; store < stores; store++) {
                for (int kind = 0; kind < 10; kind++) {
                    Level level = levels[store][kind];
                    if (level == null) {
                        continue;
                    }
                    int s = store;
                    int k = kind;
                    int sum = good(store, kind)
                            + moves.stream().filter(m -> !m.arrived && m.to == s && m.lot.kind == k
                                    && m.arrival <= m.lot.end).mapToInt(m -> m.n).sum()
                            + orders.stream().filter(o -> o[0] == s && o[1] == k && o[4] == 1)
                                    .mapToInt(o -> o[2]).sum();
                    if (sum < level.least && orders.size() < 80) {
                        orders.add(new int[] {store, kind, level.most - sum, day, 1});
                        made++;
                    }
                }
            }
            return "" + made;
        }

        String order(int i, int what) throws Refused {
            unknownUnless(isOf(i, orders), in(what, 0, 4));
            return "" + orders.get(i)[what];
        }

        String deliver(int order, int lot) throws Refused {
            unknownUnless(isOf(order, orders), isOf(lot, lots));
            int[] o = orders.get(order);
            Lot l = lots.get(lot);
            stateUnless(o[4] == 1, l.kind == o[1]);
            o[4] = 0;
            l.in[o[0]] = Math.min(9_999, l.in[o[0]] + o[2]);
            return "" + l.in[o[0]];
        }

        String emergency(int store, int kind, int n, int person) throws Refused {
            unknownUnless(isStore(store), isKind(kind), in(person, 0, 19));
            rangeUnless(in(n, 1, 9_999));
            roomUnless(emergencies.size() < 20);
            emergencies.add(new int[] {store, kind, n, person, 0});
            return "" + (emergencies.size() - 1);
        }

        String second(int emergency, int person) throws Refused {
            unknownUnless(isOf(emergency, emergencies), in(person, 0, 19));
            int[] e = emergencies.get(emergency);
            stateUnless(e[4] == 0, e[3] != person);
            roomUnless(orders.size() < 80);
            e[4] = 1;
            orders.add(new int[] {e[0], e[1], e[2], day, 1});
            return "" + (orders.size() - 1);
        }

        String count(int store, int lot, int n, int reason) throws Refused {
            unknownUnless(isStore(store), isOf(lot, lots));
            rangeUnless(in(n, 0, 9_999), in(reason, 1, 99));
            int difference = n - lots.get(lot).in[store];
            roomUnless(difference == 0 || differences.size() < 80);
            if (difference != 0) {
                differences.add(new int[] {store, lot, difference, reason, day});
            }
            lots.get(lot).in[store] = n;
            return "" + difference;
        }

        String difference(int i, int what) throws Refused {
            unknownUnless(isOf(i, differences), in(what, 0, 4));
            return "" + differences.get(i)[what];
        }

        String kit(int kit, int kind, int n) throws Refused {
            unknownUnless(in(kit, 0, 4), isKind(kind));
            rangeUnless(in(n, 0, 20));
            kits[kit][kind] = n;
            return "done";
        }

        String give(int store, int kit) throws Refused {
            unknownUnless(isStore(store), in(kit, 0, 4));
            stateUnless(IntStream.of(kits[kit]).sum() > 0);
            for (int kind = 0; kind < 10; kind++) {
                if (good(store, kind) < kits[kit][kind]) {
                    return "" + kind;
                }
            }
            for (int kind = 0; kind < 10; kind++) {
                take(store, kind, kits[kit][kind]);
            }
            return "-1";
        }

        String back(int store, int lot, int n) throws Refused {
            unknownUnless(isStore(store), isOf(lot, lots));
            rangeUnless(in(n, 1, 9_999));
            Lot l = lots.get(lot);
            if (l.out < n) {
                return "false";
            }
            roomUnless(l.in[store] + n <= 9_999);
            l.out -= n;
            l.in[store] += n;
            return "true";
        }

        String waste(int store, int lot, int n, int paper) throws Refused {
            unknownUnless(isStore(store), isOf(lot, lots));
            rangeUnless(in(n, 1, 9_999), in(paper, 1, 9_999));
            Lot l = lots.get(lot);
            stateUnless(l.in[store] >= n);
            l.in[store] -= n;
            l.paper = paper;
            return "" + (l.waste += n);
        }

        String lotAt(int lot, int what) throws Refused {
            unknownUnless(isOf(lot, lots), in(what, 0, 5));
            Lot l = lots.get(lot);
            return "" + new int[] {l.kind, l.end, l.out, l.waste, l.paper, IntStream.of(l.in).sum()}[what];
        }

        String row(int height, int litres) throws Refused {
            rangeUnless(in(height, 0, 99_999), in(litres, 0, 99_999));
            if (!table.isEmpty()) {
                int[] last = table.get(table.size() - 1);
                stateUnless(height > last[0], litres > last[1]);
            }
            roomUnless(table.size() < 10);
            table.add(new int[] {height, litres});
            return "" + table.size();
        }

        String dip(int height) throws Refused {
            rangeUnless(in(height, 0, 99_999));
            for (int[] row : table) {
                if (row[0] == height) {
                    return "" + row[1];
                }
            }
            for (int i = 1; i < table.size(); i++) {
                int[] low = table.get(i - 1);
                int[] high = table.get(i);
                if (low[0] < height && height < high[0]) {
                    long product = Math.multiplyFull(high[1] - low[1], height - low[0]);
                    return "" + (low[1] + Math.floorDiv(product, (long) (high[0] - low[0])));
                }
            }
            return "-1";
        }

        String tick(int days) throws Refused {
            rangeUnless(in(days, 1, 1_000), day + (long) days <= 9_999);
            int arrived = 0;
            for (int i = 0; i < days; i++) {
                day++;
                for (Move move : moves) {
                    if (!move.arrived && move.arrival == day) {
                        arrive(move);
                        arrived++;
                    }
                }
            }
            return "" + arrived;
        }
    }
}
