import java.util.function.IntSupplier;
import java.util.stream.IntStream;

/** Each promise of the document by itself: ordinary inputs, the edges that it names, and wrong inputs. */
public final class StockRows2Promises {
    private static final Class<IllegalArgumentException> UNKNOWN = IllegalArgumentException.class;
    private static final Class<IndexOutOfBoundsException> RANGE = IndexOutOfBoundsException.class;
    private static final Class<IllegalStateException> STATE = IllegalStateException.class;
    private static final Class<UnsupportedOperationException> ROOM = UnsupportedOperationException.class;
    private static final int[] FAR = {Integer.MIN_VALUE, -1, Integer.MAX_VALUE};

    private static int wrong = 0;

    public static void main(String[] args) {
        newObject();
        stores();
        lots();
        bringing();
        moving();
        movingAtOnceAndLoss();
        using();
        takingOrder();
        sums();
        having();
        levels();
        ordering();
        orderingOnTheWay();
        orderingLooksAtStoresThenKinds();
        ordersHaveRoom();
        orderRows();
        delivering();
        emergencies();
        seconding();
        counting();
        differences();
        kits();
        giving();
        backing();
        wasting();
        lotsTold();
        tableRows();
        dipping();
        ticking();
        fullObject();
        System.out.println(wrong == 0 ? "every promise holds" : wrong + " answers are not as due");
        if (wrong != 0) {
            System.exit(1);
        }
    }

    private static void due(String call, long want, long got) {
        if (got != want) {
            wrong++;
            System.out.println(call + " answered " + got + ", due is " + want);
        }
    }

    private static void refuses(String call, Class<? extends RuntimeException> want, IntSupplier run) {
        String got;
        try {
            got = Integer.toString(run.getAsInt());
        } catch (RuntimeException e) {
            // The class itself, not one below it: what the machine throws is no refusal.
            if (e.getClass() == want) {
                return;
            }
            got = e.getClass().getName();
        }
        wrong++;
        System.out.println(call + " answered " + got + ", due is " + want.getName());
    }

    private static StockRows2 withStores(int n) {
        StockRows2 x = new StockRows2();
        for (int i = 0; i < n; i++) {
            x.store();
        }
        return x;
    }

    private static int levelOf(StockRows2 x, int store, int kind, int least, int most) {
        x.level(store, kind, least, most);
        return 0;
    }

    private static int kitOf(StockRows2 x, int kit, int kind, int n) {
        x.kit(kit, kind, n);
        return 0;
    }

    private static void orderIs(StockRows2 x, int i, int store, int kind, int n, int day, int open) {
        int[] want = {store, kind, n, day, open};
        for (int what = 0; what < want.length; what++) {
            due("order(" + i + ", " + what + ")", want[what], x.order(i, what));
        }
    }

    private static void newObject() {
        StockRows2 x = new StockRows2();
        refuses("has(0, 0) of a new object", UNKNOWN, () -> x.has(0, 0));
        refuses("sum(0, 0, 0) of a new object", UNKNOWN, () -> x.sum(0, 0, 0));
        refuses("lotAt(0, 0) of a new object", UNKNOWN, () -> x.lotAt(0, 0));
        refuses("order(0, 0) of a new object", UNKNOWN, () -> x.order(0, 0));
        refuses("difference(0, 0) of a new object", UNKNOWN, () -> x.difference(0, 0));
        due("dip(0) of a new object", -1, x.dip(0));
        due("orders() of a new object", 0, x.orders());
        StockRows2 other = withStores(3);
        due("store() beside another object", 0, x.store());
        due("store() of the other object", 3, other.store());
    }

    private static void stores() {
        StockRows2 x = new StockRows2();
        for (int i = 0; i < 8; i++) {
            due("store()", i, x.store());
        }
        refuses("a ninth store()", ROOM, x::store);
        refuses("a ninth store() again", ROOM, x::store);
        due("sum(7, 0, 0)", 0, x.sum(7, 0, 0));
        refuses("sum(8, 0, 0)", UNKNOWN, () -> x.sum(8, 0, 0));
    }

    private static void lots() {
        StockRows2 x = new StockRows2();
        for (int far : FAR) {
            refuses("lot of a far kind", UNKNOWN, () -> x.lot(far, 0));
            refuses("lot of a far kind and day", UNKNOWN, () -> x.lot(far, far));
            refuses("lot of a far day", RANGE, () -> x.lot(0, far));
        }
        refuses("lot(10, 0)", UNKNOWN, () -> x.lot(10, 0));
        refuses("lot(0, 10000)", RANGE, () -> x.lot(0, 10_000));
        due("lot(0, 0)", 0, x.lot(0, 0));
        due("lot(9, 9999)", 1, x.lot(9, 9_999));
        x.tick(5);
        due("a lot that has ended", 2, x.lot(1, 3));
        for (int i = 3; i < 60; i++) {
            due("lot()", i, x.lot(i % 10, i));
        }
        refuses("a 61st lot", ROOM, () -> x.lot(0, 0));
        refuses("a 61st lot of no day", RANGE, () -> x.lot(0, -1));
        refuses("a 61st lot of no kind", UNKNOWN, () -> x.lot(-1, 0));
    }

    private static void bringing() {
        StockRows2 x = withStores(2);
        x.lot(0, 0);
        for (int far : FAR) {
            refuses("bring to a far store", UNKNOWN, () -> x.bring(far, 0, 0));
            refuses("bring of a far lot", UNKNOWN, () -> x.bring(0, far, 0));
            refuses("bring of a far n", RANGE, () -> x.bring(0, 0, far));
        }
        refuses("bring(2, 0, 1)", UNKNOWN, () -> x.bring(2, 0, 1));
        refuses("bring(0, 1, 1)", UNKNOWN, () -> x.bring(0, 1, 1));
        refuses("bring(0, 0, 0)", RANGE, () -> x.bring(0, 0, 0));
        refuses("bring(0, 0, 10000)", RANGE, () -> x.bring(0, 0, 10_000));
        due("bring(0, 0, 1)", 1, x.bring(0, 0, 1));
        refuses("bring(0, 0, 9999)", ROOM, () -> x.bring(0, 0, 9_999));
        due("bring(0, 0, 9998)", 9_999, x.bring(0, 0, 9_998));
        refuses("bring(0, 0, 1) to a full place", ROOM, () -> x.bring(0, 0, 1));
        due("bring(1, 0, 9999)", 9_999, x.bring(1, 0, 9_999));
        x.tick(1);
        x.lot(0, 0);
        due("bring of a lot that has ended", 4, x.bring(0, 1, 4));
    }

    private static void moving() {
        StockRows2 x = withStores(2);
        x.lot(0, 5);
        x.bring(0, 0, 9_999);
        for (int far : FAR) {
            refuses("move from a far store", UNKNOWN, () -> x.move(far, 1, 0, 0, 0));
            refuses("move to a far store", UNKNOWN, () -> x.move(0, far, 0, 0, 0));
            refuses("move of a far lot", UNKNOWN, () -> x.move(0, 1, far, 0, 0));
            refuses("move of a far n", RANGE, () -> x.move(0, 1, 0, far, 0));
            refuses("move of far days", RANGE, () -> x.move(0, 1, 0, 1, far));
        }
        refuses("move(0, 2, 0, 1, 0)", UNKNOWN, () -> x.move(0, 2, 0, 1, 0));
        refuses("move(2, 1, 0, 1, 0)", UNKNOWN, () -> x.move(2, 1, 0, 1, 0));
        refuses("move(1, 1, 0, 0, 0)", UNKNOWN, () -> x.move(1, 1, 0, 0, 0));
        refuses("move(0, 1, 1, 1, 0)", UNKNOWN, () -> x.move(0, 1, 1, 1, 0));
        refuses("move(1, 0, 0, 0, 0)", RANGE, () -> x.move(1, 0, 0, 0, 0));
        refuses("move(1, 0, 0, 10000, 0)", RANGE, () -> x.move(1, 0, 0, 10_000, 0));
        refuses("move(1, 0, 0, 1, 31)", RANGE, () -> x.move(1, 0, 0, 1, 31));
        refuses("move(1, 0, 0, 1, 0) of nothing", STATE, () -> x.move(1, 0, 0, 1, 0));
        due("move(0, 1, 0, 9999, 30)", 0, x.move(0, 1, 0, 9_999, 30));
        due("has(0, 0) when all left", 0, x.has(0, 0));
        due("has(1, 0) when all are on the way", 0, x.has(1, 0));
        due("lotAt(0, 5) when all are on the way", 0, x.lotAt(0, 5));
        due("tick(29)", 0, x.tick(29));
        due("tick(1)", 1, x.tick(1));
        due("has(1, 0) on the day", 9_999, x.has(1, 0));
        due("a move of a lot that has ended", 1, x.move(1, 0, 0, 1, 0));
        for (int i = 2; i < 60; i++) {
            due("move()", i, x.move(1, 0, 0, 1, i % 2));
        }
        refuses("a 61st move", ROOM, () -> x.move(1, 0, 0, 1, 0));
        refuses("a 61st move of too many", STATE, () -> x.move(1, 0, 0, 9_999, 0));
        due("has(1, 0) after the refusals", 9_940, x.has(1, 0));
    }

    private static void movingAtOnceAndLoss() {
        StockRows2 x = withStores(2);
        x.lot(0, 50);
        x.bring(0, 0, 100);
        x.bring(1, 0, 9_990);
        x.move(0, 1, 0, 4, 0);
        due("has(1, 0) of a move at once", 9_994, x.has(1, 0));
        due("tick does not count a move at once", 0, x.tick(1));
        x.move(0, 1, 0, 6, 0);
        due("has(1, 0) above the most, at once", 9_999, x.has(1, 0));
        due("has(0, 0), one lost", 90, x.has(0, 0));
        x.waste(1, 0, 9, 1);
        x.move(0, 1, 0, 5, 2);
        x.move(0, 1, 0, 5, 1);
        due("two moves arrive", 2, x.tick(3));
        due("has(1, 0) above the most, by days", 9_999, x.has(1, 0));
        due("sum(1, 0, 2) afterwards", 0, x.sum(1, 0, 2));
        due("lotAt(0, 5) with those lost", 9_999 + 80, x.lotAt(0, 5));
    }

    private static void using() {
        StockRows2 x = withStores(2);
        x.lot(0, 3);
        x.lot(1, 3);
        x.lot(0, 2);
        x.bring(0, 0, 10);
        x.bring(0, 1, 10);
        x.bring(0, 2, 10);
        x.bring(1, 0, 10);
        for (int far : FAR) {
            refuses("use from a far store", UNKNOWN, () -> x.use(far, 0, 0));
            refuses("use of a far kind", UNKNOWN, () -> x.use(0, far, 0));
            refuses("use of a far n", RANGE, () -> x.use(0, 0, far));
        }
        refuses("use(2, 0, 1)", UNKNOWN, () -> x.use(2, 0, 1));
        refuses("use(0, 10, 1)", UNKNOWN, () -> x.use(0, 10, 1));
        refuses("use(0, 9, 0)", RANGE, () -> x.use(0, 9, 0));
        refuses("use(0, 9, 10000)", RANGE, () -> x.use(0, 9, 10_000));
        refuses("use(0, 9, 1)", STATE, () -> x.use(0, 9, 1));
        refuses("use(0, 0, 21)", STATE, () -> x.use(0, 0, 21));
        due("has(0, 2) after the refusals", 10, x.has(0, 2));
        due("use(0, 0, 12)", 8, x.use(0, 0, 12));
        due("has(0, 2), the earlier end", 0, x.has(0, 2));
        due("has(0, 0), the later end", 8, x.has(0, 0));
        due("has(0, 1), another kind", 10, x.has(0, 1));
        due("has(1, 0), another store", 10, x.has(1, 0));
        x.tick(3);
        due("use on the last good day", 1, x.use(0, 0, 7));
        x.tick(1);
        refuses("use on the day behind", STATE, () -> x.use(0, 0, 1));
        due("has(0, 0), not good", 1, x.has(0, 0));
        x.lot(0, 9_999);
        x.bring(0, 3, 9_999);
        due("use(0, 0, 9999)", 0, x.use(0, 0, 9_999));
        due("has(0, 0), passed by", 1, x.has(0, 0));
    }

    private static void takingOrder() {
        takenInOrder(new int[] {9, 7, 7, 7, 8, 7}, new int[] {1, 5, 3, 3, 1, 4}, new int[] {2, 3, 5, 1, 4, 0});
        takenInOrder(new int[] {6, 6, 9, 6}, new int[] {2, 2, 1, 3}, new int[] {0, 1, 3, 2});
    }

    private static void takenInOrder(int[] ends, int[] there, int[] order) {
        StockRows2 x = withStores(1);
        for (int lot = 0; lot < ends.length; lot++) {
            x.lot(2, ends[lot]);
            x.bring(0, lot, there[lot]);
        }
        int left = IntStream.of(there).sum();
        for (int lot : order) {
            due("use of one", left - 1, x.use(0, 2, 1));
            due("has(0, " + lot + ") after one was taken", there[lot] - 1, x.has(0, lot));
            left -= there[lot];
            if (there[lot] > 1) {
                x.use(0, 2, there[lot] - 1);
            }
            due("has(0, " + lot + ") when all of it is taken", 0, x.has(0, lot));
            due("sum(0, 2, 0)", left, x.sum(0, 2, 0));
        }
    }

    private static void sums() {
        StockRows2 x = withStores(3);
        x.lot(4, 2);
        x.lot(4, 5);
        x.lot(5, 5);
        for (int lot = 0; lot < 3; lot++) {
            x.bring(0, lot, 100);
            x.bring(1, lot, 10 + lot);
        }
        x.move(0, 1, 0, 7, 4);
        x.move(0, 1, 1, 8, 5);
        x.move(0, 1, 2, 9, 5);
        x.move(0, 2, 1, 1, 5);
        due("sum(1, 4, 0)", 21, x.sum(1, 4, 0));
        due("sum(1, 4, 1)", 0, x.sum(1, 4, 1));
        due("sum(1, 4, 2), good or not", 15, x.sum(1, 4, 2));
        due("sum(0, 4, 2)", 0, x.sum(0, 4, 2));
        x.tick(3);
        due("sum(1, 4, 0) on day 3", 11, x.sum(1, 4, 0));
        due("sum(1, 4, 1) on day 3", 10, x.sum(1, 4, 1));
        due("sum(1, 4, 2) on day 3", 15, x.sum(1, 4, 2));
        x.tick(1);
        due("sum(1, 4, 1) on day 4", 17, x.sum(1, 4, 1));
        due("sum(1, 4, 2) on day 4", 8, x.sum(1, 4, 2));
        due("sum(1, 5, 2) on day 4", 9, x.sum(1, 5, 2));
        for (int far : FAR) {
            refuses("sum of a far store", UNKNOWN, () -> x.sum(far, 0, 0));
            refuses("sum of a far kind", UNKNOWN, () -> x.sum(0, far, 0));
            refuses("sum of a far what", UNKNOWN, () -> x.sum(0, 0, far));
        }
        refuses("sum(3, 0, 0)", UNKNOWN, () -> x.sum(3, 0, 0));
        refuses("sum(0, 10, 0)", UNKNOWN, () -> x.sum(0, 10, 0));
        refuses("sum(0, 0, 3)", UNKNOWN, () -> x.sum(0, 0, 3));
    }

    private static void having() {
        StockRows2 x = withStores(2);
        x.lot(0, 0);
        x.lot(0, 0);
        due("has(1, 1) at first", 0, x.has(1, 1));
        x.bring(1, 1, 3);
        due("has(1, 1)", 3, x.has(1, 1));
        due("has(1, 0)", 0, x.has(1, 0));
        due("has(0, 1)", 0, x.has(0, 1));
        for (int far : FAR) {
            refuses("has of a far store", UNKNOWN, () -> x.has(far, 0));
            refuses("has of a far lot", UNKNOWN, () -> x.has(0, far));
        }
        refuses("has(2, 0)", UNKNOWN, () -> x.has(2, 0));
        refuses("has(0, 2)", UNKNOWN, () -> x.has(0, 2));
    }

    private static void levels() {
        StockRows2 x = withStores(1);
        for (int far : FAR) {
            refuses("level of a far store", UNKNOWN, () -> levelOf(x, far, 0, -1, -1));
            refuses("level of a far kind", UNKNOWN, () -> levelOf(x, 0, far, -1, -1));
            refuses("level of far least and most", RANGE, () -> levelOf(x, 0, 0, far, far));
        }
        refuses("level(1, 0, 0, 0)", UNKNOWN, () -> levelOf(x, 1, 0, 0, 0));
        refuses("level(0, 10, 0, 0)", UNKNOWN, () -> levelOf(x, 0, 10, 0, 0));
        refuses("level(0, 0, -1, 5)", RANGE, () -> levelOf(x, 0, 0, -1, 5));
        refuses("level(0, 0, 6, 5)", RANGE, () -> levelOf(x, 0, 0, 6, 5));
        refuses("level(0, 0, 5, 10000)", RANGE, () -> levelOf(x, 0, 0, 5, 10_000));
        refuses("level(0, 0, 10000, 10000)", RANGE, () -> levelOf(x, 0, 0, 10_000, 10_000));
        due("orders() after refused levels", 0, x.orders());
        x.level(0, 0, 0, 0);
        due("orders() with a level of 0 and 0", 0, x.orders());
        x.level(0, 0, 0, 9_999);
        due("orders() with a least of 0", 0, x.orders());
        x.level(0, 0, 9_999, 9_999);
        x.level(0, 0, 1, 1);
        due("orders() by the level told last", 1, x.orders());
        orderIs(x, 0, 0, 0, 1, 0, 1);
    }

    private static void ordering() {
        StockRows2 x = withStores(2);
        x.lot(3, 4);
        x.lot(3, 9);
        x.level(1, 3, 10, 25);
        x.bring(1, 0, 6);
        x.bring(1, 1, 4);
        x.bring(0, 0, 7);
        due("orders() at least", 0, x.orders());
        x.use(1, 3, 1);
        due("orders() below least", 1, x.orders());
        orderIs(x, 0, 1, 3, 16, 0, 1);
        due("orders() with an open order", 0, x.orders());
        x.use(1, 3, 9);
        due("orders() while the open order is enough", 0, x.orders());
        x.level(1, 3, 17, 17);
        x.tick(2);
        due("orders() when the open order is too little", 1, x.orders());
        orderIs(x, 1, 1, 3, 1, 2, 1);
        x.deliver(0, 0);
        due("orders() counts good ones and open orders", 0, x.orders());
        x.tick(3);
        due("orders() when the good ones have ended", 1, x.orders());
        orderIs(x, 2, 1, 3, 16, 5, 1);
        x.emergency(1, 3, 100, 0);
        x.second(0, 1);
        x.level(1, 3, 117, 118);
        due("orders() counts emergency orders", 0, x.orders());
        x.level(1, 3, 118, 118);
        due("orders() beyond them", 1, x.orders());
        orderIs(x, 4, 1, 3, 1, 5, 1);
    }

    private static void orderingOnTheWay() {
        StockRows2 x = withStores(2);
        x.lot(0, 5);
        x.lot(1, 5);
        x.bring(0, 0, 100);
        x.bring(0, 1, 100);
        x.level(1, 0, 10, 10);
        x.move(0, 1, 0, 4, 5);
        x.move(0, 1, 0, 50, 6);
        x.move(0, 1, 1, 50, 1);
        due("orders() with some on the way", 1, x.orders());
        orderIs(x, 0, 1, 0, 6, 0, 1);
        due("orders() of the store that they left", 0, x.orders());
        x.tick(5);
        due("orders() once they arrived", 0, x.orders());
        x.tick(1);
        due("orders() once they have ended", 1, x.orders());
        orderIs(x, 1, 1, 0, 4, 6, 1);
    }

    private static void orderingLooksAtStoresThenKinds() {
        StockRows2 x = withStores(3);
        x.level(2, 0, 1, 1);
        x.level(0, 9, 2, 2);
        x.level(0, 1, 3, 3);
        x.level(1, 5, 4, 4);
        due("orders() of four levels", 4, x.orders());
        orderIs(x, 0, 0, 1, 3, 0, 1);
        orderIs(x, 1, 0, 9, 2, 0, 1);
        orderIs(x, 2, 1, 5, 4, 0, 1);
        orderIs(x, 3, 2, 0, 1, 0, 1);
    }

    private static void ordersHaveRoom() {
        StockRows2 x = withStores(8);
        x.emergency(0, 0, 9_999, 0);
        x.emergency(0, 0, 9_999, 0);
        due("second(0, 1)", 0, x.second(0, 1));
        for (int store = 0; store < 8; store++) {
            for (int kind = 0; kind < 10; kind++) {
                x.level(store, kind, 1, 1 + store * 10 + kind);
            }
        }
        due("orders() up to 80", 79, x.orders());
        due("orders() of 80", 0, x.orders());
        orderIs(x, 79, 7, 9, 80, 0, 1);
        x.lot(9, 9);
        due("deliver(79, 0)", 80, x.deliver(79, 0));
        x.use(7, 9, 80);
        due("orders() when there were 80", 0, x.orders());
        refuses("order(80, 0)", UNKNOWN, () -> x.order(80, 0));
        refuses("second(1, 1) when there were 80 orders", ROOM, () -> x.second(1, 1));
        refuses("second(1, 0) when there were 80 orders", STATE, () -> x.second(1, 0));
        refuses("second(1, 2) after a refusal", ROOM, () -> x.second(1, 2));
    }

    private static void orderRows() {
        StockRows2 x = withStores(1);
        x.tick(7);
        x.level(0, 6, 3, 9);
        x.orders();
        orderIs(x, 0, 0, 6, 9, 7, 1);
        for (int far : FAR) {
            refuses("order of a far number", UNKNOWN, () -> x.order(far, 0));
            refuses("order of a far what", UNKNOWN, () -> x.order(0, far));
        }
        refuses("order(1, 0)", UNKNOWN, () -> x.order(1, 0));
        refuses("order(0, 5)", UNKNOWN, () -> x.order(0, 5));
        x.lot(6, 0);
        x.deliver(0, 0);
        orderIs(x, 0, 0, 6, 9, 7, 0);
    }

    private static void delivering() {
        StockRows2 x = withStores(2);
        x.lot(1, 0);
        x.lot(2, 0);
        x.level(1, 1, 9_999, 9_999);
        x.orders();
        for (int far : FAR) {
            refuses("deliver of a far order", UNKNOWN, () -> x.deliver(far, 0));
            refuses("deliver of a far lot", UNKNOWN, () -> x.deliver(0, far));
        }
        refuses("deliver(1, 0)", UNKNOWN, () -> x.deliver(1, 0));
        refuses("deliver(0, 2)", UNKNOWN, () -> x.deliver(0, 2));
        refuses("deliver(0, 1) of another kind", STATE, () -> x.deliver(0, 1));
        due("order(0, 4) after a refusal", 1, x.order(0, 4));
        x.tick(1);
        x.bring(1, 0, 5);
        due("deliver(0, 0), some lost, as a lot that has ended", 9_999, x.deliver(0, 0));
        due("has(1, 0)", 9_999, x.has(1, 0));
        due("has(0, 0)", 0, x.has(0, 0));
        due("order(0, 4)", 0, x.order(0, 4));
        due("order(0, 2) stays", 9_999, x.order(0, 2));
        refuses("deliver(0, 0) twice", STATE, () -> x.deliver(0, 0));
        refuses("deliver(0, 2) of a closed order", UNKNOWN, () -> x.deliver(0, 2));
        x.emergency(0, 2, 30, 4);
        x.second(0, 5);
        x.bring(0, 1, 12);
        due("deliver(1, 1)", 42, x.deliver(1, 1));
    }

    private static void emergencies() {
        StockRows2 x = withStores(1);
        for (int far : FAR) {
            refuses("emergency of a far store", UNKNOWN, () -> x.emergency(far, 0, 0, 0));
            refuses("emergency of a far kind", UNKNOWN, () -> x.emergency(0, far, 0, 0));
            refuses("emergency of a far person", UNKNOWN, () -> x.emergency(0, 0, 0, far));
            refuses("emergency of a far n", RANGE, () -> x.emergency(0, 0, far, 0));
        }
        refuses("emergency(1, 0, 1, 0)", UNKNOWN, () -> x.emergency(1, 0, 1, 0));
        refuses("emergency(0, 10, 1, 0)", UNKNOWN, () -> x.emergency(0, 10, 1, 0));
        refuses("emergency(0, 0, 1, 20)", UNKNOWN, () -> x.emergency(0, 0, 1, 20));
        refuses("emergency(0, 0, 0, 0)", RANGE, () -> x.emergency(0, 0, 0, 0));
        refuses("emergency(0, 0, 10000, 0)", RANGE, () -> x.emergency(0, 0, 10_000, 0));
        for (int i = 0; i < 20; i++) {
            due("emergency()", i, x.emergency(0, 9, 9_999, 19));
        }
        refuses("a 21st emergency", ROOM, () -> x.emergency(0, 0, 1, 0));
        refuses("a 21st emergency of 0", RANGE, () -> x.emergency(0, 0, 0, 0));
        refuses("order(0, 0) before the second word", UNKNOWN, () -> x.order(0, 0));
        x.second(0, 0);
        refuses("a 21st emergency after a second word", ROOM, () -> x.emergency(0, 0, 1, 0));
    }

    private static void seconding() {
        StockRows2 x = withStores(2);
        x.emergency(1, 8, 77, 0);
        x.emergency(0, 7, 9_999, 19);
        for (int far : FAR) {
            refuses("second of a far emergency", UNKNOWN, () -> x.second(far, 0));
            refuses("second of a far person", UNKNOWN, () -> x.second(0, far));
        }
        refuses("second(2, 0)", UNKNOWN, () -> x.second(2, 0));
        refuses("second(0, 20)", UNKNOWN, () -> x.second(0, 20));
        refuses("second(0, 0) by the same person", STATE, () -> x.second(0, 0));
        x.level(1, 8, 1, 2);
        x.orders();
        x.tick(3);
        due("second(1, 0)", 1, x.second(1, 0));
        orderIs(x, 1, 0, 7, 9_999, 3, 1);
        due("second(0, 19)", 2, x.second(0, 19));
        orderIs(x, 2, 1, 8, 77, 3, 1);
        refuses("second(0, 1) twice", STATE, () -> x.second(0, 1));
        refuses("second(0, 0) twice, by the first person", STATE, () -> x.second(0, 0));
        refuses("order(3, 0)", UNKNOWN, () -> x.order(3, 0));
    }

    private static void counting() {
        StockRows2 x = withStores(2);
        x.lot(0, 0);
        for (int far : FAR) {
            refuses("count in a far store", UNKNOWN, () -> x.count(far, 0, -1, 0));
            refuses("count of a far lot", UNKNOWN, () -> x.count(0, far, -1, 0));
            refuses("count of a far n", RANGE, () -> x.count(0, 0, far, 1));
            refuses("count of a far reason", RANGE, () -> x.count(0, 0, 1, far));
        }
        refuses("count(2, 0, 1, 1)", UNKNOWN, () -> x.count(2, 0, 1, 1));
        refuses("count(0, 1, 1, 1)", UNKNOWN, () -> x.count(0, 1, 1, 1));
        refuses("count(0, 0, 10000, 1)", RANGE, () -> x.count(0, 0, 10_000, 1));
        refuses("count(0, 0, 0, 0) without a difference", RANGE, () -> x.count(0, 0, 0, 0));
        refuses("count(0, 0, 0, 100) without a difference", RANGE, () -> x.count(0, 0, 0, 100));
        due("count(0, 0, 0, 1)", 0, x.count(0, 0, 0, 1));
        refuses("difference(0, 0) when there was none", UNKNOWN, () -> x.difference(0, 0));
        due("count(0, 0, 9999, 99)", 9_999, x.count(0, 0, 9_999, 99));
        due("has(0, 0) after the count", 9_999, x.has(0, 0));
        due("has(1, 0) after the count", 0, x.has(1, 0));
        due("count(0, 0, 0, 1) of all", -9_999, x.count(0, 0, 0, 1));
        due("lotAt(0, 2): counting takes nothing out", 0, x.lotAt(0, 2));
        for (int i = 2; i < 80; i++) {
            due("count()", i == 2 ? 3 : 1, x.count(0, 0, i + 1, 5));
        }
        refuses("an 81st row", ROOM, () -> x.count(0, 0, 79, 5));
        refuses("an 81st row without a reason", RANGE, () -> x.count(0, 0, 79, 0));
        due("has(0, 0) after the refusal", 80, x.has(0, 0));
        due("count without a difference leaves no row", 0, x.count(0, 0, 80, 5));
    }

    private static void differences() {
        StockRows2 x = withStores(2);
        x.lot(0, 0);
        x.lot(5, 0);
        x.count(1, 1, 8, 42);
        x.tick(6);
        x.count(1, 1, 3, 99);
        int[][] want = {{1, 1, 8, 42, 0}, {1, 1, -5, 99, 6}};
        for (int i = 0; i < want.length; i++) {
            for (int what = 0; what < 5; what++) {
                due("difference(" + i + ", " + what + ")", want[i][what], x.difference(i, what));
            }
        }
        for (int far : FAR) {
            refuses("difference of a far number", UNKNOWN, () -> x.difference(far, 0));
            refuses("difference of a far what", UNKNOWN, () -> x.difference(0, far));
        }
        refuses("difference(2, 0)", UNKNOWN, () -> x.difference(2, 0));
        refuses("difference(0, 5)", UNKNOWN, () -> x.difference(0, 5));
    }

    private static void kits() {
        StockRows2 x = withStores(1);
        for (int far : FAR) {
            refuses("kit of a far number", UNKNOWN, () -> kitOf(x, far, 0, -1));
            refuses("kit of a far kind", UNKNOWN, () -> kitOf(x, 0, far, -1));
            refuses("kit of a far n", RANGE, () -> kitOf(x, 0, 0, far));
        }
        refuses("kit(5, 0, 1)", UNKNOWN, () -> kitOf(x, 5, 0, 1));
        refuses("kit(0, 10, 1)", UNKNOWN, () -> kitOf(x, 0, 10, 1));
        refuses("kit(0, 0, 21)", RANGE, () -> kitOf(x, 0, 0, 21));
        refuses("give(0, 0) after refused kits", STATE, () -> x.give(0, 0));
        x.lot(9, 0);
        x.bring(0, 0, 39);
        x.kit(4, 9, 7);
        x.kit(4, 9, 20);
        due("give(0, 4) by the parts told last", -1, x.give(0, 4));
        due("has(0, 0)", 19, x.has(0, 0));
        due("give(0, 4) of too few", 9, x.give(0, 4));
        refuses("give(0, 3)", STATE, () -> x.give(0, 3));
        x.kit(4, 9, 0);
        refuses("give(0, 4) without parts again", STATE, () -> x.give(0, 4));
    }

    private static void giving() {
        StockRows2 x = withStores(2);
        x.lot(2, 9);
        x.lot(2, 5);
        x.lot(6, 5);
        x.bring(0, 0, 9);
        x.bring(0, 1, 3);
        x.bring(0, 2, 5);
        x.kit(1, 2, 4);
        x.kit(1, 6, 2);
        for (int far : FAR) {
            refuses("give from a far store", UNKNOWN, () -> x.give(far, 1));
            refuses("give of a far kit", UNKNOWN, () -> x.give(0, far));
        }
        refuses("give(2, 0)", UNKNOWN, () -> x.give(2, 0));
        refuses("give(0, 5)", UNKNOWN, () -> x.give(0, 5));
        refuses("give(0, 0)", STATE, () -> x.give(0, 0));
        due("give(1, 1) from an empty store", 2, x.give(1, 1));
        due("give(0, 1)", -1, x.give(0, 1));
        due("has(0, 1), the earlier end", 0, x.has(0, 1));
        due("has(0, 0)", 8, x.has(0, 0));
        due("has(0, 2)", 3, x.has(0, 2));
        due("lotAt(0, 2)", 1, x.lotAt(0, 2));
        due("lotAt(1, 2)", 3, x.lotAt(1, 2));
        due("lotAt(2, 2)", 2, x.lotAt(2, 2));
        due("give(0, 1) again", -1, x.give(0, 1));
        due("give(0, 1) when one of kind 6 is there", 6, x.give(0, 1));
        due("has(0, 0) when nothing is given", 4, x.has(0, 0));
        x.bring(0, 2, 1);
        x.tick(6);
        due("give(0, 1) when kind 6 has ended", 6, x.give(0, 1));
        x.tick(4);
        due("give(0, 1) when both have ended", 2, x.give(0, 1));
        x.kit(2, 0, 1);
        x.lot(1, 99);
        x.bring(0, 3, 5);
        x.kit(2, 1, 1);
        due("give(0, 2) when kind 0 is lacking", 0, x.give(0, 2));
        due("has(0, 3) when nothing is given", 5, x.has(0, 3));
    }

    private static int backOf(StockRows2 x, int store, int lot, int n) {
        return x.back(store, lot, n) ? 1 : 0;
    }

    private static void backing() {
        StockRows2 x = withStores(2);
        x.lot(0, 3);
        x.lot(0, 4);
        x.bring(0, 0, 9_999);
        x.use(0, 0, 9_999);
        x.bring(0, 0, 10);
        x.use(0, 0, 10);
        for (int far : FAR) {
            refuses("back to a far store", UNKNOWN, () -> backOf(x, far, 0, 0));
            refuses("back of a far lot", UNKNOWN, () -> backOf(x, 0, far, 0));
            refuses("back of a far n", RANGE, () -> backOf(x, 0, 0, far));
        }
        refuses("back(2, 0, 1)", UNKNOWN, () -> backOf(x, 2, 0, 1));
        refuses("back(0, 2, 1)", UNKNOWN, () -> backOf(x, 0, 2, 1));
        refuses("back(0, 0, 0)", RANGE, () -> backOf(x, 0, 0, 0));
        refuses("back(0, 0, 10000)", RANGE, () -> backOf(x, 0, 0, 10_000));
        due("back(0, 1, 1) of a lot that is not out", 0, backOf(x, 0, 1, 1));
        due("back(1, 0, 5)", 1, backOf(x, 1, 0, 5));
        due("has(1, 0)", 5, x.has(1, 0));
        due("lotAt(0, 2)", 10_004, x.lotAt(0, 2));
        refuses("back(1, 0, 9995) above the most", ROOM, () -> backOf(x, 1, 0, 9_995));
        due("has(1, 0) after the refusal", 5, x.has(1, 0));
        due("lotAt(0, 2) after the refusal", 10_004, x.lotAt(0, 2));
        x.tick(9);
        due("back(1, 0, 9994) of a lot that has ended", 1, backOf(x, 1, 0, 9_994));
        due("lotAt(0, 2) then", 10, x.lotAt(0, 2));
        due("back(1, 0, 11) of too many to a full place", 0, backOf(x, 1, 0, 11));
        refuses("back(1, 0, 10) to a full place", ROOM, () -> backOf(x, 1, 0, 10));
        due("back(0, 0, 10)", 1, backOf(x, 0, 0, 10));
        due("back(0, 0, 1) when none is out", 0, backOf(x, 0, 0, 1));
        due("has(0, 0)", 10, x.has(0, 0));
    }

    private static void wasting() {
        StockRows2 x = withStores(2);
        x.lot(0, 3);
        x.lot(0, 3);
        x.bring(0, 0, 10);
        x.bring(1, 0, 9_999);
        for (int far : FAR) {
            refuses("waste of a far store", UNKNOWN, () -> x.waste(far, 0, 0, 0));
            refuses("waste of a far lot", UNKNOWN, () -> x.waste(0, far, 0, 0));
            refuses("waste of a far n", RANGE, () -> x.waste(0, 0, far, 1));
            refuses("waste of a far paper", RANGE, () -> x.waste(0, 0, 1, far));
        }
        refuses("waste(2, 0, 1, 1)", UNKNOWN, () -> x.waste(2, 0, 1, 1));
        refuses("waste(0, 2, 1, 1)", UNKNOWN, () -> x.waste(0, 2, 1, 1));
        refuses("waste(0, 0, 0, 1)", RANGE, () -> x.waste(0, 0, 0, 1));
        refuses("waste(0, 0, 10000, 1)", RANGE, () -> x.waste(0, 0, 10_000, 1));
        refuses("waste(0, 0, 11, 0)", RANGE, () -> x.waste(0, 0, 11, 0));
        refuses("waste(0, 0, 11, 10000)", RANGE, () -> x.waste(0, 0, 11, 10_000));
        refuses("waste(0, 0, 11, 1)", STATE, () -> x.waste(0, 0, 11, 1));
        due("lotAt(0, 4) after the refusals", 0, x.lotAt(0, 4));
        due("waste(0, 0, 10, 9999)", 10, x.waste(0, 0, 10, 9_999));
        due("has(0, 0)", 0, x.has(0, 0));
        x.tick(4);
        due("waste(1, 0, 9999, 1) of what has ended", 10_009, x.waste(1, 0, 9_999, 1));
        refuses("waste(1, 0, 1, 7) of nothing", STATE, () -> x.waste(1, 0, 1, 7));
        due("lotAt(0, 3)", 10_009, x.lotAt(0, 3));
        due("lotAt(0, 4)", 1, x.lotAt(0, 4));
        due("lotAt(0, 2): waste is not out", 0, x.lotAt(0, 2));
        due("lotAt(1, 3)", 0, x.lotAt(1, 3));
    }

    private static void lotsTold() {
        StockRows2 x = withStores(3);
        x.lot(7, 9_999);
        x.lot(8, 12);
        x.bring(0, 1, 10);
        x.bring(2, 1, 20);
        x.use(0, 8, 4);
        x.waste(2, 1, 3, 55);
        x.move(2, 0, 1, 2, 0);
        x.move(2, 0, 1, 5, 1);
        int[][] want = {{7, 9_999, 0, 0, 0, 0}, {8, 12, 4, 3, 55, 18}};
        for (int lot = 0; lot < want.length; lot++) {
            for (int what = 0; what < 6; what++) {
                due("lotAt(" + lot + ", " + what + ")", want[lot][what], x.lotAt(lot, what));
            }
        }
        x.tick(1);
        due("lotAt(1, 5) on the day", 23, x.lotAt(1, 5));
        for (int far : FAR) {
            refuses("lotAt of a far lot", UNKNOWN, () -> x.lotAt(far, 0));
            refuses("lotAt of a far what", UNKNOWN, () -> x.lotAt(0, far));
        }
        refuses("lotAt(2, 0)", UNKNOWN, () -> x.lotAt(2, 0));
        refuses("lotAt(2, 5)", UNKNOWN, () -> x.lotAt(2, 5));
        refuses("lotAt(0, 6)", UNKNOWN, () -> x.lotAt(0, 6));
    }

    private static void tableRows() {
        StockRows2 x = new StockRows2();
        for (int far : FAR) {
            refuses("row of a far height", RANGE, () -> x.row(far, 0));
            refuses("row of far litres", RANGE, () -> x.row(0, far));
        }
        refuses("row(100000, 0)", RANGE, () -> x.row(100_000, 0));
        refuses("row(0, 100000)", RANGE, () -> x.row(0, 100_000));
        due("row(0, 0)", 1, x.row(0, 0));
        refuses("row(0, 1)", STATE, () -> x.row(0, 1));
        refuses("row(1, 0)", STATE, () -> x.row(1, 0));
        refuses("row(0, 0) again", STATE, () -> x.row(0, 0));
        for (int i = 1; i < 9; i++) {
            due("row()", i + 1, x.row(i * 10, i));
        }
        refuses("row(79, 99)", STATE, () -> x.row(79, 99));
        refuses("row(99, 7)", STATE, () -> x.row(99, 7));
        due("row(99998, 99999)", 10, x.row(99_998, 99_999));
        refuses("an 11th row that rises not", STATE, () -> x.row(99_999, 99_999));
        refuses("an 11th row of no height", RANGE, () -> x.row(100_000, 99_999));
        StockRows2 y = new StockRows2();
        for (int i = 0; i < 10; i++) {
            y.row(i, i);
        }
        refuses("an 11th row", ROOM, () -> y.row(10, 10));
        due("dip(9) after the refusal", 9, y.dip(9));
        due("dip(10) after the refusal", -1, y.dip(10));
    }

    private static void dipping() {
        StockRows2 x = new StockRows2();
        for (int far : FAR) {
            refuses("dip of a far height", RANGE, () -> x.dip(far));
        }
        refuses("dip(100000)", RANGE, () -> x.dip(100_000));
        due("dip(99999) of an empty table", -1, x.dip(99_999));
        x.row(5, 3);
        due("dip(4) of one row", -1, x.dip(4));
        due("dip(5) of one row", 3, x.dip(5));
        due("dip(6) of one row", -1, x.dip(6));
        x.row(8, 4);
        x.row(12, 11);
        int[] want = {-1, 3, 3, 3, 4, 5, 7, 9, 11, -1};
        for (int i = 0; i < want.length; i++) {
            int height = i + 4;
            due("dip(" + height + ")", want[i], x.dip(height));
        }
        StockRows2 y = new StockRows2();
        y.row(0, 0);
        y.row(99_998, 99_999);
        due("dip(0)", 0, y.dip(0));
        due("dip(99997), a product above all ints", 99_997, y.dip(99_997));
        due("dip(49999)", 49_999, y.dip(49_999));
        due("dip(99998)", 99_999, y.dip(99_998));
        due("dip(99999)", -1, y.dip(99_999));
    }

    private static void ticking() {
        StockRows2 x = withStores(3);
        x.lot(0, 9_999);
        x.bring(0, 0, 100);
        for (int far : FAR) {
            refuses("tick of far days", RANGE, () -> x.tick(far));
        }
        refuses("tick(0)", RANGE, () -> x.tick(0));
        refuses("tick(1001)", RANGE, () -> x.tick(1_001));
        x.move(0, 1, 0, 1, 1);
        x.move(0, 2, 0, 2, 3);
        x.move(0, 1, 0, 3, 2);
        x.move(0, 1, 0, 4, 4);
        due("tick(3)", 3, x.tick(3));
        due("has(1, 0)", 4, x.has(1, 0));
        due("has(2, 0)", 2, x.has(2, 0));
        due("tick(1000)", 1, x.tick(1_000));
        due("tick(1000) when none is on the way", 0, x.tick(1_000));
        for (int i = 0; i < 7; i++) {
            x.tick(1_000);
        }
        refuses("tick(997) to day 10000", RANGE, () -> x.tick(997));
        x.move(0, 1, 0, 5, 30);
        due("tick(995) to day 9998", 1, x.tick(995));
        x.move(0, 1, 0, 6, 2);
        due("tick(1) to day 9999", 0, x.tick(1));
        due("use on day 9999", 100 - 21 - 1, x.use(0, 0, 1));
        refuses("tick(1) beyond day 9999", RANGE, () -> x.tick(1));
        due("sum(1, 0, 2) of a move that never arrives", 6, x.sum(1, 0, 2));
        x.level(1, 0, 100, 100);
        x.orders();
        orderIs(x, 0, 1, 0, 100 - 13, 9_999, 1);
    }

    /** Everything that has a bound is at it: no loop may go a step beyond. */
    private static void fullObject() {
        StockRows2 x = withStores(8);
        for (int lot = 0; lot < 60; lot++) {
            x.lot(lot % 10, 20);
            x.bring(7, lot, 10);
        }
        for (int move = 0; move < 60; move++) {
            x.move(7, 6, move, 1, 30);
        }
        for (int kind = 0; kind < 10; kind++) {
            for (int store = 0; store < 8; store++) {
                x.level(store, kind, 9_998, 9_999);
            }
        }
        due("orders() of 80 levels", 80, x.orders());
        x.level(7, 9, 9_999, 9_999);
        due("orders() of a full object", 0, x.orders());
        due("sum(6, 9, 0)", 0, x.sum(6, 9, 0));
        due("sum(6, 9, 2)", 6, x.sum(6, 9, 2));
        due("sum(7, 9, 0)", 54, x.sum(7, 9, 0));
        due("lotAt(59, 5)", 9, x.lotAt(59, 5));
        due("use(7, 9, 54)", 0, x.use(7, 9, 54));
        due("lotAt(59, 2)", 9, x.lotAt(59, 2));
        due("tick(30)", 60, x.tick(30));
        due("sum(6, 9, 1)", 6, x.sum(6, 9, 1));
        due("orders() of a full object, later", 0, x.orders());
        due("deliver(79, 59)", 9_999 - 54, x.deliver(79, 59));
        due("lotAt(59, 5) in two stores", 9_999 - 54 + 1, x.lotAt(59, 5));
    }
}
