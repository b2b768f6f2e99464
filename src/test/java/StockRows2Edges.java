import java.util.ArrayList;
import java.util.Arrays;
import java.util.List;
import java.util.function.IntFunction;

/**
 * Each sentence of the document that names a boundary, by a run of calls of its own on a new object.
 *
 * A row of a run is a call and the answer that is due: a number, true or false, done (a call without an answer),
 * or a refusal by the document's words for it: unknown, range, state, room. A row without an answer makes ready
 * and may not be refused. Behind every row that may change nothing (a refused one, one that only tells, a kit that
 * is not given, ..) a twin that never had the call must answer as the object does.
 */
public final class StockRows2Edges {
    /** What an object answers behind so many calls is free, so no run may be longer. */
    private static final int CALLS = 512;
    private static final List<String> REFUSALS = List.of("unknown", "range", "state", "room");
    /** So many of the mixes are put to one object, so that there are calls left to look at it. */
    private static final int MIXES_AT_ONCE = 64;

    private static int wrong = 0;
    private static int edges = 0;
    private static int idle = 0;

    public static void main(String[] args) {
        lastOfAllCalls();
        days();
        numbersOfStores();
        numbersOfKinds();
        numbersOfPersons();
        numbersOfLots();
        numbersOfKits();
        lastGoodDay();
        mostOfALot();
        taking();
        moves();
        movesLost();
        movesOnTheWay();
        levels();
        ordering();
        orderingOfOthers();
        roomOfOrders();
        delivered();
        emergencies();
        seconds();
        counting();
        differences();
        kits();
        given();
        outAndBack();
        wasted();
        lotTold();
        tableRows();
        dips();
        ticks();
        emptyObject();
        mixesOfStock();
        mixesOfMoves();
        mixesOfOrders();
        mixesOfCountsAndKits();
        mixesOfTableAndTime();
        System.out.println(wrong == 0
                ? edges + " edges hold, and " + idle + " idle calls changed nothing"
                : wrong + " answers are not as due");
        if (wrong != 0) {
            System.exit(1);
        }
    }

    // ---- What it is

    private static void lastOfAllCalls() {
        edge("at most 512 calls: the last of them is answered; out of a lot goes far beyond 9,999",
                "store()", "lot(0, 9999)",
                times(254, i -> List.of("bring(0, 0, 9999) = 9999", "use(0, 0, 9999) = 0")),
                "lotAt(0, 2) = 2539746", "back(0, 0, 9999) = true");
        edge("at most 512 calls: all waste of a lot is summed to the last of them",
                "store()", "lot(0, 9999)",
                times(254, i -> List.of("bring(0, 0, 9999) = 9999", "waste(0, 0, 9999, 1) = " + 9_999 * (i + 1))),
                "lotAt(0, 3) = 2539746", "has(0, 0) = 0");
    }

    // ---- Terms

    private static void days() {
        edge("DAYS are 0 .. 9,999: the end of a lot",
                "lot(0, -1) = range", "lot(0, 0) = 0", "lot(0, 9999) = 1", "lot(0, 10000) = range",
                "lotAt(0, 1) = 0", "lotAt(1, 1) = 9999");
        edge("THE DAY is 0 at first",
                "store()", "lot(0, 0)", "bring(0, 0, 1)", "sum(0, 0, 0) = 1",
                "count(0, 0, 2, 1) = 1", "difference(0, 4) = 0",
                "level(0, 0, 3, 3)", "orders() = 1", "order(0, 3) = 0");
        edge("THE DAY goes on by tick() alone",
                "store()", "lot(0, 9)", "tick(1) = 0", "count(0, 0, 1, 1) = 1", "difference(0, 4) = 1",
                "store()", "move(0, 1, 0, 1, 30)", "orders()", "tick(6) = 0",
                "count(0, 0, 1, 1) = 1", "difference(1, 4) = 7");
        edge("THE DAY goes on to 9,999 and no further",
                "store()", "lot(0, 9999)", "lot(0, 9998)", "bring(0, 0, 1)", "bring(0, 1, 1)",
                times(9, i -> "tick(1000) = 0"), "tick(999) = 0",
                "sum(0, 0, 0) = 1", "sum(0, 0, 1) = 1",
                "count(0, 0, 5, 1) = 4", "difference(0, 4) = 9999",
                "level(0, 0, 6, 6)", "orders() = 1", "order(0, 3) = 9999",
                "tick(1) = range", "tick(1000) = range",
                "count(0, 0, 6, 1) = 1", "difference(1, 4) = 9999");
    }

    private static void numbersOfStores() {
        List<String> eight = new ArrayList<>(times(8, i -> "store() = " + i));
        edge("STORES: at most 8", eight, "store() = room", "store() = room", "has(8, 0) = unknown");
        for (int bad : new int[] {-1, 8, Integer.MIN_VALUE, Integer.MAX_VALUE}) {
            edge("STORES 0, 1, .. 7: no store " + bad, eight, "lot(0, 5)", "bring(7, 0, 9)", "kit(0, 0, 1)",
                    "bring(" + bad + ", 0, 1) = unknown", "move(" + bad + ", 7, 0, 1, 0) = unknown",
                    "move(7, " + bad + ", 0, 1, 0) = unknown", "use(" + bad + ", 0, 1) = unknown",
                    "sum(" + bad + ", 0, 0) = unknown", "has(" + bad + ", 0) = unknown",
                    "level(" + bad + ", 0, 0, 0) = unknown", "emergency(" + bad + ", 0, 1, 0) = unknown",
                    "count(" + bad + ", 0, 1, 1) = unknown", "give(" + bad + ", 0) = unknown",
                    "back(" + bad + ", 0, 1) = unknown", "waste(" + bad + ", 0, 1, 1) = unknown");
        }
        edge("STORES 0, 1, .. 7: the last one does all that a store does", eight, "lot(0, 5)",
                "bring(7, 0, 9) = 9", "move(7, 0, 0, 1, 0) = 0", "move(0, 7, 0, 1, 0) = 1", "has(7, 0) = 9",
                "use(7, 0, 2) = 7", "sum(7, 0, 0) = 7", "back(7, 0, 1) = true", "waste(7, 0, 3, 1) = 3",
                "count(7, 0, 6, 1) = 1", "difference(0, 0) = 7", "kit(0, 0, 2)", "give(7, 0) = -1",
                "level(7, 0, 5, 6)", "orders() = 1", "order(0, 0) = 7", "order(0, 2) = 2",
                "emergency(7, 0, 1, 0) = 0", "second(0, 1) = 1", "order(1, 0) = 7", "deliver(1, 0) = 5",
                "lotAt(0, 5) = 5");
        edge("STORES: a store that is not made yet is none",
                "store()", "lot(0, 5)", "bring(1, 0, 1) = unknown", "move(0, 1, 0, 1, 0) = unknown",
                "level(1, 0, 1, 1) = unknown", "store() = 1", "has(1, 0) = 0", "orders() = 0", "bring(1, 0, 1) = 1");
    }

    private static void numbersOfKinds() {
        for (int bad : new int[] {-1, 10, Integer.MIN_VALUE, Integer.MAX_VALUE}) {
            edge("KINDS 0 .. 9: no kind " + bad, "store()", "store()", "lot(0, 5)", "lot(9, 5)", "bring(0, 0, 9)",
                    "bring(0, 1, 9)", "bring(1, 0, 9)", "lot(" + bad + ", 0) = unknown",
                    "use(0, " + bad + ", 1) = unknown", "sum(0, " + bad + ", 0) = unknown",
                    "level(0, " + bad + ", 1, 1) = unknown", "emergency(0, " + bad + ", 1, 0) = unknown",
                    "kit(0, " + bad + ", 1) = unknown", "give(0, 0) = state", "orders() = 0");
        }
        for (int kind : new int[] {0, 9}) {
            edge("KINDS 0 .. 9: kind " + kind + " does all that a kind does",
                    "store()", "lot(" + kind + ", 5) = 0", "bring(0, 0, 9)", "use(0, " + kind + ", 1) = 8",
                    "sum(0, " + kind + ", 0) = 8", "sum(0, " + (9 - kind) + ", 0) = 0",
                    "level(0, " + kind + ", 9, 10)", "orders() = 1", "order(0, 1) = " + kind, "order(0, 2) = 2",
                    "emergency(0, " + kind + ", 1, 0) = 0", "second(0, 1) = 1", "order(1, 1) = " + kind,
                    "kit(0, " + kind + ", 1)", "give(0, 0) = -1", "lotAt(0, 0) = " + kind, "has(0, 0) = 7");
        }
    }

    private static void numbersOfPersons() {
        edge("PERSONS 0 .. 19: who tells an emergency", "store()",
                "emergency(0, 0, 1, -1) = unknown", "emergency(0, 0, 1, 20) = unknown",
                "emergency(0, 0, 1, MIN) = unknown", "emergency(0, 0, 1, MAX) = unknown",
                "emergency(0, 0, 1, 0) = 0", "emergency(0, 0, 1, 19) = 1");
        edge("PERSONS 0 .. 19: who gives the second word", "store()", "emergency(0, 0, 1, 5)", "emergency(0, 0, 1, 5)",
                "second(0, -1) = unknown", "second(0, 20) = unknown", "second(0, MIN) = unknown",
                "second(0, MAX) = unknown", "second(0, 0) = 0", "second(1, 19) = 1");
    }

    private static void numbersOfLots() {
        List<String> sixty = new ArrayList<>(times(60, i -> "lot(3, 5) = " + i));
        edge("LOTS: at most 60", sixty, "lot(3, 5) = room", "lot(0, 0) = room", "lotAt(60, 0) = unknown");
        edge("LOTS: at most 60, of which those that have ended are some too",
                times(60, i -> "lot(3, 0)"), "tick(1)", "lot(3, 5) = room");
        for (int bad : new int[] {-1, 60, Integer.MIN_VALUE, Integer.MAX_VALUE}) {
            edge("LOTS 0, 1, .. 59: no lot " + bad, "store()", "store()", sixty, "bring(0, 59, 9)", "bring(1, 0, 9)",
                    "level(0, 3, 10, 11)", "orders() = 1",
                    "bring(0, " + bad + ", 1) = unknown", "move(0, 1, " + bad + ", 1, 0) = unknown",
                    "has(0, " + bad + ") = unknown", "deliver(0, " + bad + ") = unknown",
                    "count(0, " + bad + ", 1, 1) = unknown", "back(0, " + bad + ", 1) = unknown",
                    "waste(0, " + bad + ", 1, 1) = unknown", "lotAt(" + bad + ", 0) = unknown");
        }
        edge("LOTS 0, 1, .. 59: the last one does all that a lot does", "store()", "store()", sixty,
                "bring(0, 59, 9) = 9", "move(0, 1, 59, 4, 0) = 0", "has(1, 59) = 4", "has(0, 59) = 5",
                "count(0, 59, 6, 1) = 1", "difference(0, 1) = 59", "use(0, 3, 2) = 4", "back(1, 59, 1) = true",
                "waste(0, 59, 1, 7) = 1", "level(0, 3, 4, 4)", "orders() = 1", "deliver(0, 59) = 4",
                "lotAt(59, 0) = 3", "lotAt(59, 1) = 5", "lotAt(59, 2) = 1", "lotAt(59, 3) = 1",
                "lotAt(59, 4) = 7", "lotAt(59, 5) = 9", "has(1, 0) = 0");
        edge("LOTS: a lot that is not made yet is none", "store()", "store()", "lot(0, 5)",
                "bring(0, 1, 1) = unknown", "has(0, 1) = unknown", "move(0, 1, 1, 1, 0) = unknown",
                "count(0, 1, 0, 1) = unknown", "back(0, 1, 1) = unknown", "waste(0, 1, 1, 1) = unknown",
                "lotAt(1, 0) = unknown", "lot(0, 5) = 1", "has(0, 1) = 0", "lotAt(1, 5) = 0");
    }

    private static void numbersOfKits() {
        edge("KITS 0 .. 4", "store()", "lot(0, 5)", "bring(0, 0, 9)",
                "kit(-1, 0, 1) = unknown", "kit(5, 0, 1) = unknown", "kit(MIN, 0, 1) = unknown",
                "kit(MAX, 0, 1) = unknown", "kit(0, 0, 1) = done", "kit(4, 0, 2) = done",
                "give(0, -1) = unknown", "give(0, 5) = unknown", "give(0, MIN) = unknown", "give(0, MAX) = unknown",
                "give(0, 0) = -1", "has(0, 0) = 8", "give(0, 4) = -1", "has(0, 0) = 6");
    }

    private static void lastGoodDay() {
        edge("END: the last day on which the lot is GOOD, for sum", "store()", "lot(0, 3)", "bring(0, 0, 7)",
                "tick(3)", "sum(0, 0, 0) = 7", "sum(0, 0, 1) = 0", "tick(1)", "sum(0, 0, 0) = 0", "sum(0, 0, 1) = 7");
        edge("END: the last day on which the lot is GOOD, for use", "store()", "lot(0, 3)", "bring(0, 0, 7)",
                "tick(3)", "use(0, 0, 1) = 6", "tick(1)", "use(0, 0, 1) = state", "has(0, 0) = 6");
        edge("END: the last day on which the lot is GOOD, for give", "store()", "lot(0, 3)", "bring(0, 0, 7)",
                "kit(0, 0, 1)", "tick(3)", "give(0, 0) = -1", "tick(1)", "give(0, 0) = 0", "has(0, 0) = 6");
        edge("END: the last day on which the lot is GOOD, for orders", "store()", "lot(0, 3)", "bring(0, 0, 7)",
                "level(0, 0, 7, 9)", "tick(3)", "orders() = 0", "tick(1)", "orders() = 1", "order(0, 2) = 9");
        edge("END: a lot that ends on day 0 is good on day 0", "store()", "lot(0, 0)", "bring(0, 0, 2)",
                "use(0, 0, 1) = 1", "tick(1)", "use(0, 0, 1) = state", "sum(0, 0, 1) = 1");
        edge("END: a lot may be made and brought when it has ended already", "store()", "tick(9)", "lot(0, 8) = 0",
                "lot(0, 9) = 1", "bring(0, 0, 3) = 3", "bring(0, 1, 4) = 4", "sum(0, 0, 0) = 4", "sum(0, 0, 1) = 3");
    }

    private static void mostOfALot() {
        edge("A store has 0 of a lot at first", "store()", "lot(0, 5)", "has(0, 0) = 0", "store()", "has(1, 0) = 0",
                "lot(0, 5)", "has(0, 1) = 0", "has(1, 1) = 0", "lotAt(0, 5) = 0", "sum(0, 0, 0) = 0");
        edge("at most 9,999, by bring", "store()", "lot(0, 5)", "bring(0, 0, 9998) = 9998", "bring(0, 0, 2) = room",
                "bring(0, 0, 9999) = room", "bring(0, 0, 1) = 9999", "bring(0, 0, 1) = room", "has(0, 0) = 9999");
        edge("at most 9,999, of each lot in each store by itself", "store()", "store()", "lot(0, 5)", "lot(0, 5)",
                "bring(0, 0, 9999) = 9999", "bring(0, 1, 9999) = 9999", "bring(1, 0, 9999) = 9999",
                "bring(1, 1, 9999) = 9999", "lotAt(0, 5) = 19998", "sum(0, 0, 0) = 19998");
        edge("at most 9,999, by back", "store()", "lot(0, 5)", "bring(0, 0, 10)", "use(0, 0, 10)",
                "bring(0, 0, 9995)", "back(0, 0, 5) = room", "back(0, 0, 4) = true", "has(0, 0) = 9999",
                "back(0, 0, 1) = room", "lotAt(0, 2) = 6");
        edge("at most 9,999, by count", "store()", "lot(0, 5)", "count(0, 0, 10000, 1) = range",
                "count(0, 0, 9999, 1) = 9999", "bring(0, 0, 1) = room");
        edge("bring: n is 1 .. 9,999", "store()", "lot(0, 5)", "bring(0, 0, 0) = range", "bring(0, 0, -1) = range",
                "bring(0, 0, 10000) = range", "bring(0, 0, MIN) = range", "bring(0, 0, MAX) = range",
                "bring(0, 0, 1) = 1");
        edge("bring: n is 1 .. 9,999, all at once", "store()", "lot(0, 5)", "bring(0, 0, 9999) = 9999");
        edge("bring: an n outside of its range comes before no room", "store()", "lot(0, 5)", "bring(0, 0, 9999)",
                "bring(0, 0, 10000) = range", "bring(0, 0, MAX) = range", "bring(0, 0, 0) = range");
    }

    private static void taking() {
        Object lots = List.of("store()", "lot(0, 7)", "lot(0, 5)", "lot(0, 6)");
        edge("TAKING goes by ends", lots, "bring(0, 0, 1)", "bring(0, 1, 9)", "bring(0, 2, 5)",
                "use(0, 0, 1) = 14", "has(0, 1) = 8", "use(0, 0, 8) = 6", "has(0, 1) = 0", "has(0, 2) = 5",
                "use(0, 0, 5) = 1", "has(0, 2) = 0", "has(0, 0) = 1", "use(0, 0, 1) = 0", "use(0, 0, 1) = state");
        edge("TAKING: all of each, as long as more are needed: exactly all of the first", lots,
                "bring(0, 1, 4)", "bring(0, 2, 4)", "use(0, 0, 4) = 4", "has(0, 1) = 0", "has(0, 2) = 4");
        edge("TAKING: all of each, as long as more are needed: one more than all of the first", lots,
                "bring(0, 1, 4)", "bring(0, 2, 4)", "use(0, 0, 5) = 3", "has(0, 1) = 0", "has(0, 2) = 3");
        edge("TAKING: all of each, as long as more are needed: one less than all of the first", lots,
                "bring(0, 1, 4)", "bring(0, 2, 4)", "use(0, 0, 3) = 5", "has(0, 1) = 1", "has(0, 2) = 4");
        Object same = List.of("store()", "store()", "lot(0, 5)", "lot(0, 5)", "lot(0, 5)");
        edge("TAKING, of the same end: fewer first", same, "bring(0, 0, 5)", "bring(0, 1, 3)", "bring(0, 2, 4)",
                "use(0, 0, 1) = 11", "has(0, 1) = 2", "use(0, 0, 3) = 8", "has(0, 1) = 0", "has(0, 2) = 3",
                "use(0, 0, 4) = 4", "has(0, 2) = 0", "has(0, 0) = 4");
        edge("TAKING, of the same end: fewer in this store, not in all of them", same,
                "bring(0, 0, 5)", "bring(0, 1, 4)", "bring(1, 1, 900)", "use(0, 0, 1) = 8", "has(0, 1) = 3",
                "has(1, 1) = 900");
        edge("TAKING, of the same end: the number there, not what once came", same,
                "bring(0, 0, 9)", "bring(0, 1, 8)", "waste(0, 0, 2, 1)", "use(0, 0, 1) = 14", "has(0, 0) = 6");
        edge("TAKING, of the same end and number: by numbers", same, "bring(0, 2, 4)", "bring(0, 1, 4)",
                "bring(0, 0, 4)", "use(0, 0, 5) = 7", "has(0, 0) = 0", "has(0, 1) = 3", "has(0, 2) = 4",
                "use(0, 0, 4) = 3", "has(0, 1) = 0", "has(0, 2) = 3");
        edge("TAKING: a lot of which 0 are there is passed by", same, "bring(0, 1, 4)", "use(0, 0, 3) = 1",
                "has(0, 0) = 0", "has(0, 1) = 1", "lotAt(0, 2) = 0", "lotAt(1, 2) = 3");
        edge("TAKING: good lots alone", lots, "bring(0, 0, 2)", "bring(0, 1, 2)", "bring(0, 2, 2)", "tick(6)",
                "use(0, 0, 3) = 1", "has(0, 1) = 2", "has(0, 2) = 0", "has(0, 0) = 1", "use(0, 0, 2) = state");
        edge("TAKING: its own kind alone", "store()", "lot(1, 1)", "lot(2, 2)", "bring(0, 0, 2)", "bring(0, 1, 2)",
                "use(0, 2, 2) = 0", "has(0, 0) = 2", "use(0, 2, 1) = state", "use(0, 1, 2) = 0");
        edge("TAKING from all 60 lots", "store()", times(60, i -> "lot(0, " + (100 - i) + ")"),
                times(60, i -> "bring(0, " + i + ", 2)"), "use(0, 0, 119) = 1", "has(0, 0) = 1", "has(0, 1) = 0",
                "has(0, 59) = 0", "use(0, 0, 2) = state", "use(0, 0, 1) = 0", "has(0, 0) = 0");
        edge("use: n is 1 .. 9,999", "store()", "lot(0, 5)", "lot(0, 6)", "bring(0, 0, 9999)", "bring(0, 1, 9999)",
                "use(0, 0, 0) = range", "use(0, 0, -1) = range", "use(0, 0, 10000) = range", "use(0, 0, MIN) = range",
                "use(0, 0, MAX) = range", "use(0, 0, 1) = 19997", "use(0, 0, 9999) = 9998", "has(0, 1) = 9998");
        edge("use: exactly as many good ones are there", "store()", "lot(0, 5)", "lot(0, 6)", "bring(0, 0, 3)",
                "bring(0, 1, 4)", "use(0, 0, 8) = state", "use(0, 0, 7) = 0", "use(0, 0, 1) = state");
        edge("use: those of another store, on the way, or not good are not there", "store()", "store()", "lot(0, 0)",
                "lot(0, 9)", "bring(0, 0, 5)", "bring(1, 1, 9)", "move(1, 0, 1, 4, 2)", "tick(1)",
                "use(0, 0, 1) = state", "tick(1)", "use(0, 0, 5) = state", "use(0, 0, 4) = 0");
    }

    private static void moves() {
        Object two = List.of("store()", "store()", "lot(0, 5)", "bring(0, 0, 9)");
        edge("A MOVE of 0 days arrives at once", two, "move(0, 1, 0, 4, 0) = 0", "has(0, 0) = 5", "has(1, 0) = 4",
                "sum(1, 0, 2) = 0", "lotAt(0, 5) = 9", "tick(1) = 0", "has(1, 0) = 4");
        edge("A MOVE of 1 day arrives on the day behind", two, "move(0, 1, 0, 4, 1) = 0", "has(1, 0) = 0",
                "sum(1, 0, 2) = 4", "tick(1) = 1", "has(1, 0) = 4", "sum(1, 0, 2) = 0", "tick(1) = 0", "has(1, 0) = 4");
        edge("A MOVE of 30 days", two, "move(0, 1, 0, 4, 30) = 0", "tick(29) = 0", "has(1, 0) = 0", "tick(1) = 1",
                "has(1, 0) = 4");
        edge("A MOVE of days that are not 0 .. 30", two, "move(0, 1, 0, 4, -1) = range", "move(0, 1, 0, 4, 31) = range",
                "move(0, 1, 0, 4, MIN) = range", "move(0, 1, 0, 4, MAX) = range", "has(0, 0) = 9", "tick(31) = 0");
        edge("A MOVE is in no store until it arrives", two, "move(0, 1, 0, 9, 2) = 0", "has(0, 0) = 0", "has(1, 0) = 0",
                "lotAt(0, 5) = 0", "use(0, 0, 1) = state", "use(1, 0, 1) = state", "sum(0, 0, 2) = 0",
                "waste(1, 0, 1, 1) = state", "lotAt(0, 2) = 0", "tick(2) = 1", "lotAt(0, 5) = 9");
        edge("A MOVE takes good or not", two, "tick(6)", "move(0, 1, 0, 4, 0) = 0", "move(0, 1, 0, 5, 1) = 1",
                "sum(1, 0, 1) = 4", "tick(1) = 1", "sum(1, 0, 1) = 9", "sum(1, 0, 0) = 0");
        edge("A MOVE of what ends on the way arrives all the same", two, "tick(5)", "move(0, 1, 0, 9, 1)",
                "tick(1) = 1", "sum(1, 0, 1) = 9");
        edge("move: exactly as many are there", two, "move(0, 1, 0, 10, 0) = state", "move(0, 1, 0, 9, 0) = 0",
                "move(0, 1, 0, 1, 0) = state", "move(1, 0, 0, 9, 0) = 1");
        edge("move: n is 1 .. 9,999", two, "move(0, 1, 0, 0, 0) = range", "move(0, 1, 0, -1, 0) = range",
                "move(0, 1, 0, 10000, 0) = range", "move(0, 1, 0, MIN, 0) = range", "move(0, 1, 0, MAX, 0) = range",
                "bring(0, 0, 9990)", "move(0, 1, 0, 9999, 0) = 0", "move(1, 0, 0, 1, 0) = 1");
        edge("move: from and to are one store", two, "move(0, 0, 0, 1, 0) = unknown", "move(1, 1, 0, 1, 0) = unknown",
                "move(0, 0, 0, 0, 31) = unknown", "move(0, 0, 0, 99, 0) = unknown", "move(0, 1, 0, 1, 0) = 0");
        edge("move: at most 60 moves in all, the arrived ones too", two, "bring(0, 0, 100)",
                times(60, i -> "move(0, 1, 0, 1, " + i % 2 + ") = " + i), "tick(2) = 30",
                "move(0, 1, 0, 1, 0) = room", "move(0, 1, 0, 1, 30) = room", "move(1, 0, 0, 60, 1) = room",
                "move(1, 0, 0, 61, 1) = state", "move(0, 1, 0, 0, 0) = range", "move(0, 1, 1, 1, 0) = unknown",
                "has(0, 0) = 49", "has(1, 0) = 60");
        edge("move: refused ones have no number", two, "move(0, 1, 0, 10, 0) = state", "move(0, 1, 0, 0, 0) = range",
                "move(0, 0, 0, 1, 0) = unknown", "move(0, 1, 0, 1, 0) = 0");
        edge("a move leaves room where it was", two, "bring(0, 0, 9990)", "bring(0, 0, 1) = room",
                "move(0, 1, 0, 1, 1)", "bring(0, 0, 1) = 9999");
    }

    private static void movesLost() {
        Object two = List.of("store()", "store()", "lot(0, 50)", "bring(0, 0, 9)", "bring(1, 0, 9995)");
        edge("what arrives at once up to 9,999 is not lost", two, "move(0, 1, 0, 4, 0) = 0", "has(1, 0) = 9999",
                "lotAt(0, 5) = 10004");
        edge("what would be above 9,999 at once is lost", two, "move(0, 1, 0, 5, 0) = 0", "has(1, 0) = 9999",
                "lotAt(0, 5) = 10003", "has(0, 0) = 4", "lotAt(0, 2) = 0", "lotAt(0, 3) = 0");
        edge("what arrives later up to 9,999 is not lost", two, "move(0, 1, 0, 4, 3) = 0", "tick(3) = 1",
                "has(1, 0) = 9999", "lotAt(0, 5) = 10004");
        edge("what would be above 9,999 later is lost", two, "move(0, 1, 0, 5, 3) = 0", "tick(3) = 1",
                "has(1, 0) = 9999", "lotAt(0, 5) = 10003", "tick(30) = 0", "has(1, 0) = 9999");
        edge("lost by what is there on the day of arrival, not on the day of the move", two,
                "move(0, 1, 0, 9, 3) = 0", "waste(1, 0, 5, 1)", "tick(3) = 1", "has(1, 0) = 9999",
                "lotAt(0, 5) = 9999");
        edge("room on the day of the move is of no use when there is none on the day of arrival", two,
                "move(0, 1, 0, 4, 3) = 0", "bring(1, 0, 4) = 9999", "tick(3) = 1", "has(1, 0) = 9999",
                "lotAt(0, 5) = 10004");
        edge("all of 9,999 lost at a full place", "store()", "store()", "lot(0, 50)", "bring(0, 0, 9999)",
                "bring(1, 0, 9999)", "move(0, 1, 0, 9999, 0) = 0", "has(1, 0) = 9999", "lotAt(0, 5) = 9999");
        edge("two moves of one day into the last room", two, "move(0, 1, 0, 3, 2)", "move(0, 1, 0, 3, 2)",
                "tick(2) = 2", "has(1, 0) = 9999", "has(0, 0) = 3");
    }

    private static void movesOnTheWay() {
        Object three = List.of("store()", "store()", "store()", "lot(0, 1)", "lot(0, 9)", "lot(1, 9)",
                "bring(0, 0, 99)", "bring(0, 1, 99)", "bring(0, 2, 99)");
        edge("sum 2: on the way to it, good or not", three, "move(0, 1, 0, 3, 5)", "move(0, 1, 1, 4, 5)",
                "sum(1, 0, 2) = 7", "tick(4)", "sum(1, 0, 2) = 7", "tick(1)", "sum(1, 0, 2) = 0",
                "sum(1, 0, 0) = 4", "sum(1, 0, 1) = 3");
        edge("sum 2: its own store and kind alone", three, "move(0, 1, 1, 3, 5)", "move(0, 2, 1, 4, 5)",
                "move(0, 1, 2, 5, 5)", "sum(1, 0, 2) = 3", "sum(2, 0, 2) = 4", "sum(1, 1, 2) = 5", "sum(0, 0, 2) = 0");
        edge("sum: what is 0, 1 or 2", three, "sum(0, 0, -1) = unknown", "sum(0, 0, 3) = unknown",
                "sum(0, 0, MIN) = unknown", "sum(0, 0, MAX) = unknown", "sum(0, 0, 0) = 198", "sum(0, 0, 1) = 0",
                "sum(0, 0, 2) = 0");
        edge("sum of an empty store", three, "sum(2, 0, 0) = 0", "sum(2, 0, 1) = 0", "sum(2, 0, 2) = 0");
        edge("sum 2 of 60 moves of 9,999", "store()", "store()", "lot(0, 9)",
                times(60, i -> List.of("bring(0, 0, 9999)", "move(0, 1, 0, 9999, 30)")), "sum(1, 0, 2) = 599940",
                "tick(30) = 60", "has(1, 0) = 9999", "sum(1, 0, 2) = 0");
        edge("a move that would arrive behind day 9,999 stays on the way", "store()", "store()", "lot(0, 9999)",
                "bring(0, 0, 9)", times(9, i -> "tick(1000)"), "tick(998)", "move(0, 1, 0, 2, 1) = 0",
                "move(0, 1, 0, 3, 2) = 1", "move(0, 1, 0, 4, 30) = 2", "tick(1) = 1", "has(1, 0) = 2",
                "sum(1, 0, 2) = 7", "tick(1) = range", "sum(1, 0, 2) = 7");
    }

    private static void levels() {
        edge("LEVELS: none at first", "store()", "store()", "orders() = 0", "order(0, 0) = unknown");
        edge("LEVELS: 0 .. 9,999", "store()", "level(0, 0, -1, 5) = range", "level(0, 0, 5, 10000) = range",
                "level(0, 0, 10000, 10000) = range", "level(0, 0, -1, -1) = range", "level(0, 0, -2, -1) = range",
                "level(0, 0, MIN, MAX) = range", "level(0, 0, MIN, 5) = range", "level(0, 0, 0, MAX) = range",
                "level(0, 0, 0, MIN) = range", "level(0, 0, MAX, MAX) = range", "level(0, 0, MIN, MIN) = range",
                "orders() = 0", "level(0, 0, 0, 0) = done", "level(0, 0, 0, 9999) = done", "orders() = 0",
                "level(0, 0, 9999, 9999) = done", "orders() = 1", "order(0, 2) = 9999");
        edge("LEVELS: LEAST <= MOST", "store()", "level(0, 0, 6, 5) = range", "level(0, 0, 1, 0) = range",
                "level(0, 0, 9999, 9998) = range", "level(0, 0, MAX, MIN) = range", "orders() = 0",
                "level(0, 0, 5, 5) = done", "orders() = 1", "order(0, 2) = 5");
        edge("LEVELS: the one told last", "store()", "level(0, 0, 50, 60)", "level(0, 0, 1, 2)", "orders() = 1",
                "order(0, 2) = 2", "level(0, 0, 3, 8)", "orders() = 1", "order(1, 2) = 6");
        edge("LEVELS: a refused one leaves the one before", "store()", "level(0, 0, 3, 8)",
                "level(0, 0, 9, 5) = range", "level(0, 0, 4, 10000) = range", "orders() = 1", "order(0, 2) = 8");
        edge("LEVELS of a store and a kind", "store()", "store()", "level(0, 9, 1, 1)", "level(1, 0, 2, 2)",
                "orders() = 2", "order(0, 0) = 0", "order(0, 1) = 9", "order(0, 2) = 1", "order(1, 0) = 1",
                "order(1, 1) = 0", "order(1, 2) = 2");
    }

    private static void ordering() {
        Object two = List.of("store()", "store()", "lot(0, 5)", "lot(0, 5)");
        edge("ORDERING: exactly least is not below it", two, "level(0, 0, 7, 9)", "bring(0, 0, 4)", "bring(0, 1, 3)",
                "orders() = 0", "use(0, 0, 1)", "orders() = 1", "order(0, 2) = 3");
        edge("ORDERING: most less that, at its smallest", two, "level(0, 0, 7, 7)", "bring(0, 0, 6)", "orders() = 1",
                "order(0, 2) = 1", "orders() = 0");
        edge("ORDERING: a least of 0 never orders", two, "level(0, 0, 0, 9)", "orders() = 0", "bring(0, 0, 1)",
                "orders() = 0", "use(0, 0, 1)", "orders() = 0");
        edge("ORDERING: a least of 1 orders at 0", two, "level(0, 0, 1, 9)", "orders() = 1", "order(0, 2) = 9");
        edge("ORDERING counts good ones alone", two, "lot(0, 6)", "level(0, 0, 7, 9)", "bring(0, 0, 4)",
                "bring(0, 2, 3)", "tick(5)", "orders() = 0", "tick(1)", "orders() = 1", "order(0, 2) = 6",
                "order(0, 3) = 6");
        edge("ORDERING counts those on the way that end on the day of arrival", two, "bring(1, 0, 9)",
                "move(1, 0, 0, 7, 5)", "level(0, 0, 7, 9)", "orders() = 0", "tick(4)", "orders() = 0", "tick(1) = 1",
                "orders() = 0", "tick(1)", "orders() = 1", "order(0, 2) = 9");
        edge("ORDERING does not count those on the way that end the day before arrival", two, "bring(1, 0, 9)",
                "move(1, 0, 0, 7, 6)", "level(0, 0, 7, 9)", "orders() = 1", "order(0, 2) = 9", "sum(0, 0, 2) = 7");
        edge("ORDERING: good when they arrive, not from now on for so many days", two, "bring(1, 0, 9)",
                "move(1, 0, 0, 7, 5)", "tick(3)", "level(0, 0, 7, 9)", "orders() = 0");
        edge("ORDERING counts open orders up to least", two, "level(0, 0, 7, 9)", "orders() = 1", "order(0, 2) = 9",
                "level(0, 0, 9, 12)", "orders() = 0", "level(0, 0, 10, 12)", "orders() = 1", "order(1, 2) = 3");
        edge("ORDERING does not count orders that were delivered", two, "level(0, 0, 7, 9)", "orders() = 1",
                "deliver(0, 0) = 9", "use(0, 0, 3) = 6", "orders() = 1", "order(1, 2) = 3");
        edge("ORDERING: good ones, those on the way and open orders together", two, "bring(1, 0, 9)", "bring(0, 1, 2)",
                "move(1, 0, 0, 3, 1)", "emergency(0, 0, 4, 0)", "second(0, 1) = 0", "level(0, 0, 9, 20)",
                "orders() = 0", "level(0, 0, 10, 20)", "orders() = 1", "order(1, 2) = 11");
        edge("ORDERING: what is above least, even far above most", two, "bring(0, 0, 9999)", "bring(0, 1, 9999)",
                "emergency(0, 0, 9999, 0)", "second(0, 1)", "level(0, 0, 9999, 9999)", "orders() = 0");
    }

    private static void orderingOfOthers() {
        Object two = List.of("store()", "store()", "lot(0, 5)", "lot(1, 5)", "level(0, 0, 7, 9)");
        edge("ORDERING: good ones of another store or kind are not there", two, "bring(1, 0, 50)", "bring(0, 1, 50)",
                "orders() = 1", "order(0, 2) = 9");
        edge("ORDERING: those on the way from it, or of another kind, are not on the way to it", two, "bring(0, 0, 50)",
                "bring(1, 1, 50)", "move(0, 1, 0, 50, 1)", "move(1, 0, 1, 50, 1)", "orders() = 1", "order(0, 2) = 9");
        edge("ORDERING: open orders of another store or kind are not for it", two, "emergency(1, 0, 50, 0)",
                "emergency(0, 1, 50, 0)", "second(0, 1)", "second(1, 1)", "orders() = 1", "order(2, 2) = 9");
        edge("ORDERING: an emergency without a second word is no order", two, "emergency(0, 0, 50, 0)", "orders() = 1",
                "order(0, 2) = 9", "second(0, 1) = 1", "order(1, 2) = 50");
        edge("ORDERING looks at all stores, then kinds", times(3, i -> "store()"), "level(2, 0, 1, 1)",
                "level(0, 9, 1, 2)", "level(1, 5, 1, 3)", "level(0, 1, 1, 4)", "level(1, 4, 1, 5)", "orders() = 5",
                "order(0, 2) = 4", "order(1, 2) = 2", "order(2, 2) = 5", "order(3, 2) = 3", "order(4, 2) = 1");
        edge("orders: how many this call made", two, "level(1, 1, 1, 1)", "orders() = 2", "orders() = 0",
                "level(1, 0, 1, 1)", "orders() = 1", "emergency(0, 5, 5, 5)", "second(0, 6) = 3", "orders() = 0",
                "order(3, 1) = 5", "order(4, 0) = unknown");
        edge("orders: a store that is made later has no level", two, "orders() = 1", "store() = 2", "orders() = 0");
    }

    private static List<String> orders(int n) {
        List<String> rows = new ArrayList<>(times(8, i -> "store()"));
        for (int i = 0; i < n; i++) {
            rows.add("level(" + i / 10 + ", " + i % 10 + ", 1, " + (i + 1) + ")");
        }
        rows.add("orders() = " + n);
        return rows;
    }

    private static void roomOfOrders() {
        edge("ORDERS: the 80th is made", orders(79), "level(7, 9, 1, 33)", "orders() = 1", "order(79, 0) = 7",
                "order(79, 1) = 9", "order(79, 2) = 33", "order(79, 4) = 1", "order(80, 0) = unknown");
        edge("ORDERS: at most 80, no more are made", orders(80), "lot(0, 5)", "deliver(0, 0) = 1", "use(0, 0, 1) = 0",
                "orders() = 0", "order(80, 0) = unknown", "order(79, 2) = 80", "order(0, 4) = 0");
        edge("ORDERS: the last room goes to the first store and kind of several", orders(79), "lot(0, 5)",
                "deliver(10, 0) = 11", "use(1, 0, 11) = 0", "deliver(20, 0) = 21", "use(2, 0, 21) = 0",
                "level(7, 9, 1, 33)", "orders() = 1", "order(79, 0) = 1", "order(79, 1) = 0", "order(79, 2) = 11",
                "orders() = 0");
        edge("ORDERS: the last room goes to a second word", orders(79), "emergency(7, 9, 9999, 0)",
                "emergency(7, 9, 5, 0)", "second(0, 1) = 79", "order(79, 2) = 9999", "second(1, 1) = room",
                "level(7, 9, 9999, 9999)", "orders() = 0");
        edge("order: i is one of those made", orders(3), "order(-1, 0) = unknown", "order(3, 0) = unknown",
                "order(80, 0) = unknown", "order(MIN, 0) = unknown", "order(MAX, 0) = unknown", "order(0, 2) = 1",
                "order(2, 2) = 3");
        edge("order: what is 0 .. 4", orders(2), "order(1, -1) = unknown", "order(1, 5) = unknown",
                "order(0, 5) = unknown", "order(1, MIN) = unknown", "order(1, MAX) = unknown", "order(1, 0) = 0",
                "order(1, 1) = 1", "order(1, 2) = 2", "order(1, 3) = 0", "order(1, 4) = 1");
        edge("order: before the first one there is none", "store()", "order(0, 0) = unknown", "order(0, 4) = unknown",
                "order(-1, 4) = unknown");
    }

    private static void delivered() {
        Object one = List.of("store()", "lot(0, 5)", "lot(1, 5)", "level(0, 0, 5, 9)", "orders()");
        edge("deliver: open until then", one, "order(0, 4) = 1", "deliver(0, 0) = 9", "order(0, 4) = 0",
                "deliver(0, 0) = state", "has(0, 0) = 9", "order(0, 2) = 9");
        edge("deliver: the lot is of another kind", one, "deliver(0, 1) = state", "order(0, 4) = 1", "has(0, 1) = 0",
                "deliver(0, 0) = 9");
        edge("deliver: not open and of another kind", one, "deliver(0, 0)", "deliver(0, 1) = state");
        edge("deliver: no such order or lot", one, "deliver(-1, 0) = unknown", "deliver(1, 0) = unknown",
                "deliver(0, -1) = unknown", "deliver(0, 2) = unknown", "deliver(MIN, 0) = unknown",
                "deliver(MAX, 0) = unknown", "deliver(0, MIN) = unknown", "deliver(0, MAX) = unknown");
        edge("deliver: unknown comes before not open", one, "deliver(0, 0)", "deliver(0, 2) = unknown",
                "deliver(1, 1) = unknown");
        edge("deliver: up to 9,999 none is lost", one, "bring(0, 0, 9990)", "deliver(0, 0) = 9999", "has(0, 0) = 9999");
        edge("deliver: those above 9,999 are lost", one, "bring(0, 0, 9991)", "deliver(0, 0) = 9999",
                "has(0, 0) = 9999", "order(0, 4) = 0", "lotAt(0, 2) = 0", "lotAt(0, 3) = 0");
        edge("deliver: all are lost at a full place", one, "bring(0, 0, 9999)", "deliver(0, 0) = 9999",
                "order(0, 4) = 0", "orders() = 0");
        edge("deliver: 9,999 to a full place", "store()", "lot(0, 5)", "level(0, 0, 9999, 9999)", "orders()",
                "bring(0, 0, 9999)", "deliver(0, 0) = 9999");
        edge("deliver: as a lot that has ended", one, "tick(6)", "deliver(0, 0) = 9", "sum(0, 0, 1) = 9",
                "sum(0, 0, 0) = 0");
        edge("deliver: to the order's store, as the lot told", "store()", "store()", "lot(0, 5)", "lot(0, 6)",
                "level(1, 0, 5, 9)", "orders()", "bring(1, 1, 2)", "bring(0, 1, 4)", "deliver(0, 1) = 11",
                "has(1, 0) = 0", "has(0, 1) = 4");
        edge("deliver: orders of a day that is long ago, in any order", orders(3), "lot(1, 9999)", "lot(2, 9999)",
                "tick(1000)", "deliver(2, 1) = 3", "deliver(1, 0) = 2", "order(2, 3) = 0", "order(2, 4) = 0",
                "order(0, 4) = 1");
    }

    private static void emergencies() {
        List<String> twenty = new ArrayList<>(times(20, i -> "emergency(0, 1, 5, 2) = " + i));
        edge("EMERGENCIES: at most 20", "store()", twenty, "emergency(0, 1, 5, 2) = room",
                "emergency(0, 0, 1, 0) = room", "second(19, 0) = 0", "second(20, 0) = unknown");
        edge("EMERGENCIES: at most 20, those with a second word too", "store()", twenty, times(20, i -> "second(" + i
                + ", 0) = " + i), "emergency(0, 1, 5, 2) = room");
        edge("emergency: n is 1 .. 9,999", "store()", "emergency(0, 0, 0, 0) = range", "emergency(0, 0, -1, 0) = range",
                "emergency(0, 0, 10000, 0) = range", "emergency(0, 0, MIN, 0) = range",
                "emergency(0, 0, MAX, 0) = range", "emergency(0, 0, 1, 0) = 0", "emergency(0, 0, 9999, 0) = 1",
                "second(0, 1) = 0", "order(0, 2) = 1", "second(1, 1) = 1", "order(1, 2) = 9999");
        edge("an emergency is no order before the second word", "store()", "emergency(0, 0, 5, 0)",
                "order(0, 0) = unknown", "lot(0, 5)", "deliver(0, 0) = unknown");
        edge("an emergency's order may be above all levels", "store()", "level(0, 0, 1, 2)", "orders() = 1",
                "emergency(0, 0, 9999, 0)", "second(0, 1) = 1", "order(1, 2) = 9999", "order(1, 4) = 1");
        edge("emergency: a full room of orders is of no matter to it", orders(80), "emergency(0, 0, 1, 0) = 0");
    }

    private static void seconds() {
        edge("second: it had it", "store()", "emergency(0, 0, 5, 2)", "second(0, 3) = 0", "second(0, 4) = state",
                "second(0, 3) = state", "second(0, 2) = state", "order(1, 0) = unknown");
        edge("second: it is the same person", "store()", "emergency(0, 0, 5, 0)", "emergency(0, 0, 5, 19)",
                "second(0, 0) = state", "second(1, 19) = state", "order(0, 0) = unknown", "second(1, 0) = 0",
                "second(0, 19) = 1");
        edge("second: no such emergency", "store()", "second(0, 0) = unknown", "emergency(0, 0, 5, 0)",
                "second(-1, 1) = unknown", "second(1, 1) = unknown", "second(MIN, 1) = unknown",
                "second(MAX, 1) = unknown", "second(0, 1) = 0");
        edge("second: the order is of the day of the second word", "store()", "store()", "emergency(1, 7, 5, 0)",
                "tick(4)", "second(0, 1) = 0", "order(0, 0) = 1", "order(0, 1) = 7", "order(0, 2) = 5",
                "order(0, 3) = 4", "order(0, 4) = 1");
        edge("second: there are 80 orders", orders(80), "emergency(0, 0, 5, 0)", "second(0, 1) = room",
                "second(0, 2) = room");
        edge("second: there are 80 orders, all delivered ones among them", orders(80), "emergency(0, 0, 5, 0)",
                "lot(0, 5)", "deliver(0, 0)", "second(0, 1) = room");
        edge("second: the same person comes before 80 orders", orders(80), "emergency(0, 0, 5, 0)",
                "second(0, 0) = state");
        edge("second: it had it comes before 80 orders", orders(79), "emergency(0, 0, 5, 0)", "second(0, 1) = 79",
                "second(0, 1) = state", "second(0, 2) = state", "second(0, 0) = state");
        edge("second: unknown comes before all", orders(80), "emergency(0, 0, 5, 0)", "second(0, 20) = unknown",
                "second(1, 0) = unknown", "second(-1, -1) = unknown");
    }

    private static void counting() {
        Object one = List.of("store()", "lot(0, 5)");
        edge("count: n is 0 .. 9,999", one, "count(0, 0, -1, 1) = range", "count(0, 0, 10000, 1) = range",
                "count(0, 0, MIN, 1) = range", "count(0, 0, MAX, 1) = range", "count(0, 0, 9999, 1) = 9999",
                "has(0, 0) = 9999", "count(0, 0, 0, 1) = -9999", "has(0, 0) = 0", "difference(0, 2) = 9999",
                "difference(1, 2) = -9999");
        edge("count: a REASON is 1 .. 99", one, "count(0, 0, 5, 0) = range", "count(0, 0, 5, 100) = range",
                "count(0, 0, 5, -1) = range", "count(0, 0, 5, MIN) = range", "count(0, 0, 5, MAX) = range",
                "count(0, 0, 5, 1) = 5", "count(0, 0, 6, 99) = 1", "difference(0, 3) = 1", "difference(1, 3) = 99");
        edge("count: a wrong reason is refused without a difference too", one, "count(0, 0, 0, 0) = range",
                "count(0, 0, 0, 100) = range", "count(0, 0, 0, 1) = 0");
        edge("count: a difference of 0 leaves no row", one, "count(0, 0, 0, 1) = 0", "difference(0, 0) = unknown",
                "bring(0, 0, 5)", "count(0, 0, 5, 1) = 0", "difference(0, 0) = unknown", "count(0, 0, 4, 1) = -1",
                "difference(0, 2) = -1", "difference(1, 0) = unknown");
        edge("count: that is so from then on", one, "bring(0, 0, 5)", "count(0, 0, 8, 1) = 3", "use(0, 0, 9) = state",
                "use(0, 0, 8) = 0", "lotAt(0, 2) = 8");
        edge("count: one store's alone, and nothing is out or waste by it", one, "store()", "bring(0, 0, 5)",
                "bring(1, 0, 7)", "count(1, 0, 2, 1) = -5", "has(0, 0) = 5", "lotAt(0, 2) = 0", "lotAt(0, 3) = 0",
                "lotAt(0, 4) = 0", "lotAt(0, 5) = 7");
        edge("count: a lot that has ended", one, "tick(6)", "count(0, 0, 3, 1) = 3", "sum(0, 0, 1) = 3");
        edge("count: what is on the way is not there", one, "store()", "bring(0, 0, 5)", "move(0, 1, 0, 5, 1)",
                "count(0, 0, 0, 1) = 0", "count(1, 0, 0, 1) = 0", "tick(1)", "count(1, 0, 5, 1) = 0");
        List<String> eighty = new ArrayList<>(times(80, i -> "count(0, 0, " + (i + 1) + ", " + (i + 1) + ") = 1"));
        edge("count: the 80th row is the last", one, eighty, "difference(79, 3) = 80", "count(0, 0, 81, 1) = room",
                "count(0, 0, 79, 1) = room", "count(0, 0, 0, 1) = room", "has(0, 0) = 80",
                "difference(80, 0) = unknown");
        edge("count: with 80 rows a difference of 0 is still counted", one, eighty, "count(0, 0, 80, 1) = 0",
                "use(0, 0, 1)", "count(0, 0, 79, 99) = 0", "count(0, 0, 80, 1) = room");
        edge("count: with 80 rows the other refusals come first", one, eighty, "count(0, 0, 10000, 1) = range",
                "count(0, 0, 1, 0) = range", "count(0, 1, 1, 1) = unknown", "count(1, 0, 1, 1) = unknown");
    }

    private static void differences() {
        Object two = List.of("store()", "store()", "lot(0, 5)", "lot(0, 5)", "count(0, 1, 7, 9)", "tick(3)",
                "count(1, 0, 4, 8)");
        edge("difference: i is one of the rows", two, "difference(-1, 0) = unknown", "difference(2, 0) = unknown",
                "difference(80, 0) = unknown", "difference(MIN, 0) = unknown", "difference(MAX, 0) = unknown");
        edge("difference: what is 0 .. 4", two, "difference(0, -1) = unknown", "difference(0, 5) = unknown",
                "difference(1, 5) = unknown", "difference(0, MIN) = unknown", "difference(0, MAX) = unknown",
                "difference(0, 0) = 0", "difference(0, 1) = 1", "difference(0, 2) = 7", "difference(0, 3) = 9",
                "difference(0, 4) = 0", "difference(1, 0) = 1", "difference(1, 1) = 0", "difference(1, 2) = 4",
                "difference(1, 3) = 8", "difference(1, 4) = 3");
        edge("difference: before the first row there is none", "store()", "difference(0, 0) = unknown",
                "difference(0, 4) = unknown", "difference(-1, 4) = unknown");
    }

    private static void kits() {
        edge("PARTS: 0 .. 20", "store()", "lot(0, 5)", "bring(0, 0, 50)", "kit(0, 0, -1) = range",
                "kit(0, 0, 21) = range", "kit(0, 0, MIN) = range", "kit(0, 0, MAX) = range", "give(0, 0) = state",
                "kit(0, 0, 20) = done", "give(0, 0) = -1", "has(0, 0) = 30", "kit(0, 0, 1) = done", "give(0, 0) = -1",
                "has(0, 0) = 29", "kit(0, 0, 0) = done", "give(0, 0) = state");
        edge("PARTS: 0 at first", "store()", times(5, i -> "give(0, " + i + ") = state"));
        edge("PARTS: a refused number leaves the one before", "store()", "lot(0, 5)", "bring(0, 0, 50)", "kit(0, 0, 3)",
                "kit(0, 0, 21) = range", "kit(0, 0, -1) = range", "give(0, 0) = -1", "has(0, 0) = 47");
        edge("PARTS: of each kit by itself", "store()", "lot(0, 5)", "bring(0, 0, 50)", "kit(1, 0, 3)",
                "give(0, 0) = state", "give(0, 2) = state", "give(0, 1) = -1", "has(0, 0) = 47");
        edge("PARTS: of kind 9 of one kit are not of kind 0 of the next", "store()", "lot(0, 5)", "lot(9, 5)",
                "bring(0, 0, 50)", "bring(0, 1, 50)", "kit(1, 9, 3)", "give(0, 2) = state", "give(0, 1) = -1",
                "has(0, 0) = 50", "has(0, 1) = 47");
    }

    private static void given() {
        Object kit = List.of("store()", "lot(2, 5)", "lot(2, 6)", "lot(7, 5)", "kit(0, 2, 5)", "kit(0, 7, 3)");
        edge("give: exactly as many good ones are there as parts", kit, "bring(0, 0, 2)", "bring(0, 1, 3)",
                "bring(0, 2, 3)", "give(0, 0) = -1", "has(0, 0) = 0", "has(0, 1) = 0", "has(0, 2) = 0",
                "lotAt(0, 2) = 2", "lotAt(1, 2) = 3", "lotAt(2, 2) = 3", "give(0, 0) = 2");
        edge("give: one too few of the higher kind, nothing is taken", kit, "bring(0, 0, 2)", "bring(0, 1, 3)",
                "bring(0, 2, 2)", "give(0, 0) = 7", "has(0, 0) = 2", "has(0, 1) = 3", "has(0, 2) = 2",
                "lotAt(0, 2) = 0");
        edge("give: one too few of the lower kind, nothing is taken", kit, "bring(0, 0, 2)", "bring(0, 1, 2)",
                "bring(0, 2, 3)", "give(0, 0) = 2", "has(0, 0) = 2", "has(0, 1) = 2", "has(0, 2) = 3",
                "lotAt(2, 2) = 0");
        edge("give: the lowest kind of which too few are there", kit, "give(0, 0) = 2", "bring(0, 0, 5)",
                "give(0, 0) = 7", "kit(0, 0, 1)", "give(0, 0) = 0", "kit(0, 0, 0)", "kit(0, 9, 1)", "give(0, 0) = 7",
                "bring(0, 2, 3)", "give(0, 0) = 9");
        edge("give: a kind without parts is of no matter", kit, "bring(0, 0, 5)", "bring(0, 2, 3)", "give(0, 0) = -1");
        edge("give: those that are not good are not there", kit, "bring(0, 0, 5)", "bring(0, 1, 5)", "bring(0, 2, 3)",
                "tick(6)", "give(0, 0) = 7", "kit(0, 7, 0)", "give(0, 0) = -1", "has(0, 0) = 5", "has(0, 1) = 0");
        edge("give: those in other stores and on the way are not there", kit, "store()", "bring(1, 0, 9)",
                "bring(1, 2, 9)", "move(1, 0, 0, 5, 1)", "give(0, 0) = 2", "tick(1)", "give(0, 0) = 7",
                "has(0, 0) = 5");
        edge("give: taken by the earliest end, fewer first", kit, "lot(2, 5)", "bring(0, 0, 4)", "bring(0, 1, 1)",
                "bring(0, 3, 3)", "bring(0, 2, 9)", "give(0, 0) = -1", "has(0, 3) = 0", "has(0, 0) = 2",
                "has(0, 1) = 1", "has(0, 2) = 6");
        edge("give: all ten kinds of 20 parts", "store()", times(10, i -> "lot(" + i + ", 5)"),
                times(10, i -> "bring(0, " + i + ", 20)"), times(10, i -> "kit(4, " + i + ", 20)"), "give(0, 4) = -1",
                times(10, i -> "has(0, " + i + ") = 0"), times(10, i -> "lotAt(" + i + ", 2) = 20"), "give(0, 4) = 0");
        edge("give: nine of ten kinds are there", "store()", times(9, i -> "lot(" + i + ", 5)"),
                times(9, i -> "bring(0, " + i + ", 20)"), times(10, i -> "kit(4, " + i + ", 20)"), "give(0, 4) = 9",
                times(9, i -> "has(0, " + i + ") = 20"));
        edge("give: the kit has no parts, in an empty store", "store()", "give(0, 0) = state", "kit(0, 5, 1)",
                "give(0, 0) = 5", "kit(0, 5, 0)", "give(0, 0) = state");
        edge("give: unknown comes before a kit without parts", "store()", "give(1, 0) = unknown",
                "give(-1, 0) = unknown", "give(0, 5) = unknown", "give(1, 5) = unknown");
    }

    private static void outAndBack() {
        Object one = List.of("store()", "store()", "lot(0, 5)", "bring(0, 0, 30)");
        edge("OUT: those taken by using and kits, less those that came back", one, "use(0, 0, 4)", "kit(0, 0, 3)",
                "give(0, 0)", "lotAt(0, 2) = 7", "back(0, 0, 2) = true", "lotAt(0, 2) = 5");
        edge("OUT: not those moved, wasted or counted", one, "move(0, 1, 0, 3, 0)", "move(0, 1, 0, 3, 9)",
                "waste(0, 0, 3, 1)", "count(0, 0, 3, 1)", "lotAt(0, 2) = 0", "back(0, 0, 1) = false");
        edge("back: exactly so many are out", one, "use(0, 0, 4)", "back(0, 0, 5) = false", "has(0, 0) = 26",
                "lotAt(0, 2) = 4", "back(0, 0, 4) = true", "has(0, 0) = 30", "lotAt(0, 2) = 0",
                "back(0, 0, 1) = false");
        edge("back: none is out at first", one, "back(0, 0, 1) = false", "back(0, 0, 9999) = false", "has(0, 0) = 30");
        edge("back: n is 1 .. 9,999", "store()", "lot(0, 5)", "bring(0, 0, 9999)", "use(0, 0, 9999)",
                "bring(0, 0, 9999)", "use(0, 0, 9999)", "back(0, 0, 0) = range", "back(0, 0, -1) = range",
                "back(0, 0, 10000) = range", "back(0, 0, MIN) = range", "back(0, 0, MAX) = range",
                "back(0, 0, 9999) = true", "lotAt(0, 2) = 9999", "use(0, 0, 9999) = 0", "back(0, 0, 1) = true",
                "lotAt(0, 2) = 19997");
        edge("back: an n outside of its range comes before whether so many are out", one, "back(0, 0, 0) = range",
                "back(0, 0, 10000) = range");
        edge("back: to another store than it was taken from", one, "use(0, 0, 4)", "back(1, 0, 4) = true",
                "has(1, 0) = 4", "has(0, 0) = 26");
        edge("back: another lot's are not out", one, "lot(0, 5)", "use(0, 0, 4)", "back(0, 1, 1) = false");
        edge("back: a lot that has ended", one, "use(0, 0, 4)", "tick(6)", "back(0, 0, 4) = true", "sum(0, 0, 1) = 30");
        edge("back: so many are out, but there would be above 9,999", one, "use(0, 0, 4)", "bring(1, 0, 9996)",
                "back(1, 0, 4) = room", "has(1, 0) = 9996", "lotAt(0, 2) = 4", "back(1, 0, 3) = true",
                "has(1, 0) = 9999", "lotAt(0, 2) = 1", "back(1, 0, 1) = room");
        edge("back: not so many are out, and there would be above 9,999", one, "use(0, 0, 4)", "bring(1, 0, 9999)",
                "back(1, 0, 5) = false", "has(1, 0) = 9999", "lotAt(0, 2) = 4");
    }

    private static void wasted() {
        Object one = List.of("store()", "store()", "lot(0, 5)", "bring(0, 0, 9)");
        edge("waste: n is 1 .. 9,999", one, "waste(0, 0, 0, 1) = range", "waste(0, 0, -1, 1) = range",
                "waste(0, 0, 10000, 1) = range", "waste(0, 0, MIN, 1) = range", "waste(0, 0, MAX, 1) = range",
                "bring(0, 0, 9990)", "waste(0, 0, 1, 1) = 1", "bring(0, 0, 1)", "waste(0, 0, 9999, 1) = 10000");
        edge("waste: a paper is 1 .. 9,999", one, "waste(0, 0, 1, 0) = range", "waste(0, 0, 1, -1) = range",
                "waste(0, 0, 1, 10000) = range", "waste(0, 0, 1, MIN) = range", "waste(0, 0, 1, MAX) = range",
                "lotAt(0, 4) = 0", "waste(0, 0, 1, 1) = 1", "lotAt(0, 4) = 1", "waste(0, 0, 1, 9999) = 2",
                "lotAt(0, 4) = 9999");
        edge("waste: exactly as many are there", one, "waste(0, 0, 10, 1) = state", "waste(0, 0, 9, 1) = 9",
                "waste(0, 0, 1, 2) = state", "lotAt(0, 4) = 1", "has(0, 0) = 0", "lotAt(0, 3) = 9");
        edge("waste: nothing is there", one, "waste(1, 0, 1, 1) = state", "lotAt(0, 3) = 0", "lotAt(0, 4) = 0");
        edge("waste: good or not", one, "waste(0, 0, 1, 1) = 1", "tick(6)", "waste(0, 0, 8, 1) = 9");
        edge("waste: all waste of a lot is summed, over stores; not that of other lots", one, "lot(0, 5)",
                "bring(1, 0, 5)", "bring(0, 1, 5)", "waste(0, 0, 2, 1) = 2", "waste(1, 0, 3, 2) = 5",
                "waste(0, 1, 4, 3) = 4", "lotAt(0, 3) = 5", "lotAt(0, 4) = 2", "lotAt(1, 3) = 4", "lotAt(1, 4) = 3");
        edge("waste: a range comes before less there", one, "waste(1, 0, 1, 0) = range", "waste(1, 0, 0, 1) = range",
                "waste(1, 0, 1, 10000) = range");
    }

    private static void lotTold() {
        Object two = List.of("store()", "store()", "lot(4, 8)", "lot(6, 9)");
        edge("lotAt: what is 0 .. 5", two, "lotAt(0, -1) = unknown", "lotAt(0, 6) = unknown", "lotAt(0, MIN) = unknown",
                "lotAt(0, MAX) = unknown", "lotAt(0, 0) = 4", "lotAt(0, 5) = 0", "lotAt(1, 0) = 6", "lotAt(1, 1) = 9");
        edge("lotAt: no such lot", two, "lotAt(-1, 0) = unknown", "lotAt(2, 0) = unknown", "lotAt(2, 5) = unknown",
                "lotAt(-1, 5) = unknown", "lotAt(MIN, 5) = unknown", "lotAt(MAX, 5) = unknown", "lotAt(1, 5) = 0");
        edge("lotAt 4: 0 without a paper", two, "bring(0, 0, 5)", "lotAt(0, 4) = 0", "waste(0, 0, 6, 7) = state",
                "lotAt(0, 4) = 0", "waste(0, 0, 5, 7)", "lotAt(0, 4) = 7", "lotAt(1, 4) = 0");
        edge("lotAt 5: in all 8 stores", times(8, i -> "store()"), "lot(0, 5)", "lotAt(0, 5) = 0",
                times(8, i -> List.of("bring(" + i + ", 0, 9999)", "lotAt(0, 5) = " + 9_999 * (i + 1))));
        edge("has: no such store or lot", two, "has(-1, 0) = unknown", "has(2, 0) = unknown", "has(0, -1) = unknown",
                "has(0, 2) = unknown", "has(-1, 60) = unknown", "has(1, -60) = unknown", "has(0, 60) = unknown",
                "has(1, 1) = 0");
    }

    private static List<String> rows(int n) {
        return times(n, i -> "row(" + (i * 10 + 5) + ", " + (i * 3 + 2) + ") = " + (i + 1));
    }

    private static void tableRows() {
        edge("row: a HEIGHT is 0 .. 99,999", "row(-1, 5) = range", "row(100000, 5) = range", "row(MIN, 5) = range",
                "row(MAX, 5) = range", "row(0, 5) = 1", "row(99999, 6) = 2", "dip(0) = 5", "dip(99999) = 6");
        edge("row: LITRES are 0 .. 99,999", "row(5, -1) = range", "row(5, 100000) = range", "row(5, MIN) = range",
                "row(5, MAX) = range", "row(5, 0) = 1", "row(6, 99999) = 2", "dip(5) = 0", "dip(6) = 99999");
        edge("row: heights that do not rise", "row(5, 5)", "row(5, 6) = state", "row(4, 6) = state",
                "row(0, 99999) = state", "row(6, 6) = 2");
        edge("row: litres that do not rise", "row(5, 5)", "row(6, 5) = state", "row(6, 4) = state",
                "row(99999, 0) = state", "row(6, 6) = 2");
        edge("row: neither rises", "row(5, 5)", "row(5, 5) = state", "row(4, 4) = state", "row(0, 0) = state");
        edge("row: rising from the last row, not from the first", "row(5, 5)", "row(9, 9)", "row(7, 10) = state",
                "row(10, 7) = state", "row(10, 10) = 3");
        edge("row: nothing rises above 99,999", "row(99999, 99999) = 1", "row(99999, 99999) = state",
                "row(100000, 100000) = range", "dip(99999) = 99999", "dip(99998) = -1");
        edge("row: up to 10", rows(9), "row(95, 29) = 10", "row(96, 30) = room", "row(99999, 99999) = room",
                "dip(95) = 29", "dip(96) = -1");
        edge("row: with 10, not rising comes before no room", rows(10), "row(95, 30) = state", "row(96, 29) = state",
                "row(0, 0) = state");
        edge("row: with 10, a range comes before all", rows(10), "row(-1, 0) = range", "row(0, 100000) = range",
                "row(100000, 99999) = range");
        edge("row: a range comes before not rising", "row(5, 5)", "row(-1, 6) = range", "row(5, 100000) = range",
                "row(4, -1) = range");
    }

    private static void dips() {
        edge("dip: the height is 0 .. 99,999, of an empty table", "dip(-1) = range", "dip(100000) = range",
                "dip(MIN) = range", "dip(MAX) = range", "dip(0) = -1", "dip(99999) = -1", "dip(5) = -1");
        edge("dip: the height is 0 .. 99,999, of a table from end to end", "row(0, 3)", "row(99999, 7)",
                "dip(-1) = range", "dip(100000) = range", "dip(MIN) = range", "dip(MAX) = range", "dip(0) = 3",
                "dip(99999) = 7");
        edge("dip: a table of one row", "row(7, 9)", "dip(6) = -1", "dip(7) = 9", "dip(8) = -1", "dip(0) = -1",
                "dip(99999) = -1");
        edge("dip: -1 below the first and above the last row", "row(7, 9)", "row(9, 19)", "dip(6) = -1", "dip(7) = 9",
                "dip(8) = 14", "dip(9) = 19", "dip(10) = -1");
        edge("dip: the litres of a row, of each of ten", rows(10), times(10,
                i -> "dip(" + (i * 10 + 5) + ") = " + (i * 3 + 2)), "dip(4) = -1", "dip(96) = -1");
        edge("dip: between two rows, one beside each row", rows(10), times(9, i -> List.of(
                "dip(" + (i * 10 + 6) + ") = " + (i * 3 + 2), "dip(" + (i * 10 + 14) + ") = " + (i * 3 + 4))));
        edge("dip: rounded down, up to the last one before the next litre", "row(10, 4)", "row(20, 7)", "dip(13) = 4",
                "dip(14) = 5", "dip(16) = 5", "dip(17) = 6", "dip(19) = 6", "dip(20) = 7");
        edge("dip: the difference is rounded, of litres that rise faster than heights", "row(10, 1)", "row(13, 12)",
                "dip(11) = 4", "dip(12) = 8", "dip(13) = 12");
        edge("dip: the product is beyond an int", "row(0, 0)", "row(99999, 99999)", "dip(1) = 1", "dip(46341) = 46341",
                "dip(50000) = 50000", "dip(99998) = 99998");
        edge("dip: the product is beyond an int, from rows above 0", "row(1, 1)", "row(99998, 99999)", "dip(2) = 2",
                "dip(99997) = 99997", "dip(50000) = 50000", "dip(0) = -1", "dip(99999) = -1");
        edge("dip: rows side by side", "row(0, 0)", "row(1, 99998)", "row(2, 99999)", "dip(0) = 0", "dip(1) = 99998",
                "dip(2) = 99999", "dip(3) = -1");
        edge("dip: flat to the last height", "row(0, 0)", "row(99999, 1)", "dip(1) = 0", "dip(99998) = 0",
                "dip(99999) = 1");
    }

    private static void ticks() {
        edge("tick: 1 .. 1,000 days", "store()", "lot(0, 1001)", "bring(0, 0, 1)", "tick(0) = range",
                "tick(-1) = range", "tick(1001) = range", "tick(MIN) = range", "tick(MAX) = range", "tick(1) = 0",
                "tick(1000) = 0", "sum(0, 0, 0) = 1", "tick(1) = 0", "sum(0, 0, 0) = 0");
        edge("tick: beyond 9,999", "store()", "lot(0, 9999)", "bring(0, 0, 1)", times(9, i -> "tick(1000) = 0"),
                "tick(1000) = range", "tick(999) = 0", "sum(0, 0, 0) = 1", "tick(1) = range", "tick(1000) = range",
                "tick(MAX) = range", "sum(0, 0, 0) = 1");
        edge("tick: beyond 9,999, nothing arrives of what would have on the days before", "store()", "store()",
                "lot(0, 9999)", "bring(0, 0, 9)", times(9, i -> "tick(1000)"), "tick(990)", "move(0, 1, 0, 4, 9)",
                "move(0, 1, 0, 4, 1)", "tick(10) = range", "has(1, 0) = 0", "sum(1, 0, 2) = 8", "tick(9) = 2",
                "has(1, 0) = 8");
        Object moves = List.of("store()", "store()", "lot(0, 50)", "bring(0, 0, 99)", "move(0, 1, 0, 1, 3)",
                "move(0, 1, 0, 2, 1)", "move(0, 1, 0, 4, 2)", "move(0, 1, 0, 8, 3)", "move(0, 1, 0, 16, 0)",
                "move(0, 1, 0, 32, 4)");
        edge("tick: how many moves arrived, day by day", moves, "has(1, 0) = 16", "tick(1) = 1", "has(1, 0) = 18",
                "tick(1) = 1", "has(1, 0) = 22", "tick(1) = 2", "has(1, 0) = 31", "tick(1) = 1", "has(1, 0) = 63",
                "tick(1) = 0");
        edge("tick: how many moves arrived, of several days at once", moves, "tick(3) = 4", "has(1, 0) = 31",
                "sum(1, 0, 2) = 32", "tick(1000) = 1", "has(1, 0) = 63", "tick(1000) = 0");
        edge("tick: all 60 moves on one day", "store()", "store()", "lot(0, 50)", "bring(0, 0, 60)", times(60,
                i -> "move(0, 1, 0, 1, 30)"), "tick(29) = 0", "tick(1) = 60", "has(1, 0) = 60", "tick(1) = 0");
        edge("tick: a refused one is no day", "store()", "lot(0, 0)", "bring(0, 0, 1)", "tick(0) = range",
                "tick(1001) = range", "sum(0, 0, 0) = 1", "count(0, 0, 2, 1)", "difference(0, 4) = 0");
    }

    // ---- Promise 1

    private static void emptyObject() {
        edge("a new object: no stores", "has(0, 0) = unknown", "sum(0, 0, 0) = unknown", "use(0, 0, 1) = unknown",
                "level(0, 0, 0, 0) = unknown", "emergency(0, 0, 1, 0) = unknown", "give(0, 0) = unknown",
                "lot(0, 0) = 0", "bring(0, 0, 1) = unknown", "move(0, 1, 0, 1, 0) = unknown",
                "count(0, 0, 0, 1) = unknown", "back(0, 0, 1) = unknown", "waste(0, 0, 1, 1) = unknown",
                "lotAt(0, 5) = 0", "store() = 0");
        edge("a new object: no lots", "store() = 0", "store() = 1", "lotAt(0, 0) = unknown", "lotAt(0, 5) = unknown",
                "has(0, 0) = unknown", "bring(0, 0, 1) = unknown", "move(0, 1, 0, 1, 0) = unknown",
                "count(0, 0, 0, 1) = unknown", "back(0, 0, 1) = unknown", "waste(0, 0, 1, 1) = unknown",
                "use(0, 0, 1) = state", "sum(0, 0, 0) = 0", "sum(0, 9, 1) = 0", "sum(1, 0, 2) = 0", "lot(0, 0) = 0");
        edge("a new object: an empty table", "dip(0) = -1", "dip(99999) = -1", "row(0, 0) = 1", "dip(0) = 0");
        edge("a new object: no orders, emergencies, differences, parts or moves", "order(0, 0) = unknown",
                "difference(0, 0) = unknown", "second(0, 0) = unknown", "deliver(0, 0) = unknown", "orders() = 0",
                "tick(1) = 0", "store()", "give(0, 0) = state", "orders() = 0");
    }

    // ---- Refusals: the first of these that is so

    private static void mixesOfStock() {
        Object full = List.of("store()", "lot(0, 5)", "bring(0, 0, 9999)");
        mixes("lot: unknown, range, no room", calls(times(60, i -> "lot(0, 5)")), "lot", "room",
                "fine 0 9 unknown -1 10 MIN MAX", "fine 0 9999 range -1 10000 MIN MAX");
        mixes("bring: unknown, range, no room", calls(full), "bring", "room", "fine 0 unknown -1 1 8 MIN MAX",
                "fine 0 unknown -1 1 60 MIN MAX", "fine 1 9999 range 0 -1 10000 MIN MAX");
        mixes("use: unknown, range, less are there", calls(List.of("store()", "lot(0, 5)")), "use", "state",
                "fine 0 unknown -1 1 MIN MAX", "fine 0 9 unknown -1 10 MIN MAX",
                "fine 1 9999 range 0 -1 10000 MIN MAX");
        mixes("sum: unknown", calls(full), "sum", null,
                "fine 0 unknown -1 1 MIN MAX", "fine 0 9 unknown -1 10 MIN MAX", "fine 0 2 unknown -1 3 MIN MAX");
        mixes("has: unknown", calls(full), "has", "9999", "fine 0 unknown -1 1 MIN MAX", "fine 0 unknown -1 1 MIN MAX");
        mixes("back: unknown, range, no room", calls(full, "use(0, 0, 9999)", "bring(0, 0, 9999)"), "back", "room",
                "fine 0 unknown -1 1 MIN MAX", "fine 0 unknown -1 1 60 MIN MAX",
                "fine 1 9999 range 0 -1 10000 MIN MAX");
        mixes("back: unknown, range, not so many out", calls(full), "back", "false", "fine 0 unknown -1 1 MIN MAX",
                "fine 0 unknown -1 1 60 MIN MAX", "fine 1 9999 range 0 -1 10000 MIN MAX");
        mixes("waste: unknown, range, less are there", calls(List.of("store()", "lot(0, 5)")), "waste", "state",
                "fine 0 unknown -1 1 MIN", "fine 0 unknown -1 1 MAX", "fine 1 9999 range 0 -1 10000 MIN MAX",
                "fine 1 9999 range 0 -1 10000 MIN MAX");
        mixes("lotAt: unknown", calls(full), "lotAt", null, "fine 0 unknown -1 1 MIN MAX",
                "fine 0 5 unknown -1 6 MIN MAX");
    }

    private static void mixesOfMoves() {
        String[] arguments = {"fine 0 unknown -1 2 MAX", "fine 1 unknown -1 2 MIN", "fine 0 unknown -1 1 60",
                "fine 1 9999 range 0 -1 10000 MAX", "fine 0 30 range -1 31 MIN MAX"};
        Object two = List.of("store()", "store()", "lot(0, 5)");
        mixes("move: unknown, range, less are there", calls(two), "move", "state", arguments);
        Object sixty = List.of(two, "bring(1, 0, 60)", times(60, i -> "move(1, 0, 0, 1, 30)"));
        mixes("move: unknown, range, less are there, even behind 60", calls(sixty), "move", "state", arguments);
        mixes("move: unknown, range, no room", calls(sixty, "bring(0, 0, 9999)"), "move", "room", arguments);
    }

    private static void mixesOfOrders() {
        Object one = List.of("store()", "lot(0, 5)", "level(0, 0, 5, 9)", "orders()");
        mixes("level: unknown, range", calls(one), "level", null, "fine 0 unknown -1 1 MIN MAX",
                "fine 0 9 unknown -1 10 MIN MAX", "fine 0 5 range -1 10000 MIN MAX",
                "fine 5 9999 range -1 10000 MIN MAX");
        mixes("order: unknown", calls(one), "order", null, "fine 0 unknown -1 1 80 MIN MAX",
                "fine 0 4 unknown -1 5 MIN MAX");
        mixes("deliver: unknown, not open", calls(one, "deliver(0, 0)"), "deliver", "state",
                "fine 0 unknown -1 1 80 MIN MAX", "fine 0 unknown -1 1 60 MIN MAX");
        mixes("deliver: unknown, another kind", calls(one, "lot(1, 5)"), "deliver", "state",
                "fine 0 unknown -1 1 80 MIN MAX", "fine 1 unknown -1 2 60 MIN MAX");
        mixes("emergency: unknown, range, no room", calls("store()", times(20, i -> "emergency(0, 0, 1, 0)")),
                "emergency", "room", "fine 0 unknown -1 1 MIN MAX", "fine 0 9 unknown -1 10 MAX",
                "fine 1 9999 range 0 -1 10000 MIN MAX", "fine 0 19 unknown -1 20 MIN");
        mixes("second: unknown, it had it", calls("store()", "emergency(0, 0, 1, 5)", "second(0, 6)"), "second",
                "state", "fine 0 unknown -1 1 20 MIN MAX", "fine 0 5 6 19 unknown -1 20 MIN MAX");
        mixes("second: unknown, the same person, of a full room", calls(orders(80), "emergency(0, 0, 1, 5)"), "second",
                "state", "fine 0 unknown -1 1 20 MIN MAX", "fine 5 unknown -1 20 MIN MAX");
        mixes("second: unknown, no room", calls(orders(80), "emergency(0, 0, 1, 5)"), "second", "room",
                "fine 0 unknown -1 1 20 MIN MAX", "fine 0 19 unknown -1 20 MIN MAX");
    }

    private static void mixesOfCountsAndKits() {
        Object eighty = List.of("store()", "lot(0, 5)", times(80, i -> "count(0, 0, " + (i + 1) + ", 1)"));
        mixes("count: unknown, range, no room", calls(eighty), "count", "room", "fine 0 unknown -1 1 MIN",
                "fine 0 unknown -1 1 MAX", "fine 0 9999 range -1 10000 MIN MAX", "fine 1 99 range 0 -1 100 MIN MAX");
        mixes("count: unknown, range, no difference", calls("store()", "lot(0, 5)", "bring(0, 0, 7)"), "count", "0",
                "fine 0 unknown -1 1 MIN", "fine 0 unknown -1 1 MAX", "fine 7 range -1 10000 MIN MAX",
                "fine 1 99 range 0 -1 100 MIN MAX");
        mixes("difference: unknown", calls(eighty), "difference", null, "fine 0 79 unknown -1 80 MIN MAX",
                "fine 0 4 unknown -1 5 MIN MAX");
        mixes("kit: unknown, range", calls("store()"), "kit", null, "fine 0 4 unknown -1 5 MIN MAX",
                "fine 0 9 unknown -1 10 MIN MAX", "fine 0 20 range -1 21 MIN MAX");
        mixes("give: unknown, no parts", calls("store()", "lot(0, 5)"), "give", "state", "fine 0 unknown -1 1 MIN MAX",
                "fine 0 4 unknown -1 5 MIN MAX");
    }

    private static void mixesOfTableAndTime() {
        String wide = "range -1 100000 MIN MAX";
        mixes("row: range, they do not rise", calls("row(50, 50)"), "row", "state", "fine 0 50 " + wide,
                "fine 0 50 99999 " + wide);
        mixes("row: range, they do not rise, of ten", calls(rows(10)), "row", "state", "fine 0 95 " + wide,
                "fine 0 29 99999 " + wide);
        mixes("row: range, no room", calls(rows(10)), "row", "room", "fine 96 99999 " + wide, "fine 30 99999 " + wide);
        mixes("dip: range", calls(), "dip", "-1", "fine 0 99999 " + wide);
        mixes("tick: range, at day 0", calls("store()", "store()", "lot(0, 0)", "bring(0, 0, 2)",
                "move(0, 1, 0, 1, 1)"), "tick", null, "range 0 -1 1001 MIN MAX");
        mixes("tick: range, at day 9,999", calls(times(9, i -> "tick(1000)"), "tick(999)"), "tick", null,
                "range 0 1 2 999 1000 -1 1001 MIN MAX");
    }

    // ---- How the runs are made and looked at

    private record Call(String row, String name, int[] args, String due) {
        static Call of(String row) {
            int open = row.indexOf('(');
            int close = row.indexOf(')');
            int equals = row.indexOf(" = ");
            String inside = row.substring(open + 1, close).trim();
            int[] args = inside.isEmpty() ? new int[0]
                    : Arrays.stream(inside.split(",")).mapToInt(a -> number(a.trim())).toArray();
            return new Call(row, row.substring(0, open), args, equals < 0 ? null : row.substring(equals + 3));
        }

        /** Refused, or one that only tells, or one whose answer says that nothing came of it. */
        boolean changesNothing() {
            if (due == null) {
                return false;
            }
            return REFUSALS.contains(due) || switch (name) {
                case "has", "sum", "lotAt", "order", "difference", "dip" -> true;
                case "orders", "count" -> due.equals("0");
                case "give" -> !due.equals("-1");
                case "back" -> due.equals("false");
                default -> false;
            };
        }
    }

    private static int number(String text) {
        return switch (text) {
            case "MIN" -> Integer.MIN_VALUE;
            case "MAX" -> Integer.MAX_VALUE;
            default -> Integer.parseInt(text);
        };
    }

    /** Rows i = 0 .. n - 1; one i may make several. */
    private static List<String> times(int n, IntFunction<Object> rows) {
        List<String> all = new ArrayList<>();
        for (int i = 0; i < n; i++) {
            flatten(rows.apply(i), all);
        }
        return all;
    }

    private static void flatten(Object part, List<String> into) {
        if (part instanceof List<?> parts) {
            parts.forEach(inner -> flatten(inner, into));
        } else {
            into.add((String) part);
        }
    }

    private static List<Call> calls(Object... parts) {
        List<String> rows = new ArrayList<>();
        flatten(List.of(parts), rows);
        return rows.stream().map(Call::of).toList();
    }

    private static void edge(String sentence, Object... parts) {
        List<Call> run = calls(parts);
        edges++;
        check(sentence, run);
        for (int i = 0; i < run.size(); i++) {
            if (run.get(i).changesNothing()) {
                staysAsItWas(sentence, run.subList(0, i), run.subList(i, i + 1));
            }
        }
    }

    /** Every mix of the arguments: refused by the first of the document's refusals that one of them asks for. */
    private static void mixes(String sentence, List<Call> before, String name, String fine, String... arguments) {
        List<Call> all = new ArrayList<>();
        mix(name, fine, arguments, 0, "", 2, all);
        edges++;
        for (int at = 0; at < all.size(); at += MIXES_AT_ONCE) {
            List<Call> some = all.subList(at, Math.min(all.size(), at + MIXES_AT_ONCE));
            List<Call> run = new ArrayList<>(before);
            run.addAll(some);
            check(sentence, run);
            staysAsItWas(sentence, before, some);
        }
    }

    private static void mix(String name, String fine, String[] arguments, int at, String made, int worst,
            List<Call> all) {
        if (at == arguments.length) {
            String due = worst == 2 ? fine : REFUSALS.get(worst);
            if (due != null) {
                all.add(Call.of(name + "(" + made + ") = " + due));
            }
            return;
        }
        int rank = 2;
        for (String word : arguments[at].split(" ")) {
            switch (word) {
                case "fine" -> rank = 2;
                case "unknown" -> rank = 0;
                case "range" -> rank = 1;
                default -> mix(name, fine, arguments, at + 1, made + (at == 0 ? "" : ", ") + word,
                        Math.min(rank, worst), all);
            }
        }
    }

    private static void check(String sentence, List<Call> run) {
        if (run.size() > CALLS) {
            tell(sentence, "the run has " + run.size() + " calls");
        }
        StockRows2 x = new StockRows2();
        for (int i = 0; i < run.size(); i++) {
            Call call = run.get(i);
            String got = answer(x, call);
            boolean good = call.due == null ? !REFUSALS.contains(got) && !got.startsWith("java") : got.equals(call.due);
            if (!good) {
                tell(sentence, "call " + i + ", " + call.row + ", answered " + got);
            }
        }
    }

    private static void tell(String sentence, String what) {
        wrong++;
        System.out.println(sentence + ": " + what);
    }

    /** Calls that change what is there, then calls whose answers show it. */
    private record Look(List<Call> first, List<Call> reads) {
    }

    /** An object that had the idle calls and a twin that had not must answer alike, whatever comes behind. */
    private static void staysAsItWas(String sentence, List<Call> before, List<Call> idleCalls) {
        idle += idleCalls.size();
        for (Look look : looks(before)) {
            int left = CALLS - before.size() - idleCalls.size() - look.first.size();
            for (int at = 0; left > 0 && at < look.reads.size(); at += left) {
                List<Call> reads = look.reads.subList(at, Math.min(look.reads.size(), at + left));
                List<String> without = answers(before, List.of(), look.first, reads);
                List<String> with = answers(before, idleCalls, look.first, reads);
                if (!with.equals(without)) {
                    tell(sentence, idleCalls.get(0).row + " (one of " + idleCalls.size() + ") changed "
                            + firstOther(look, reads, with, without));
                    return;
                }
            }
        }
    }

    private static String firstOther(Look look, List<Call> reads, List<String> with, List<String> without) {
        List<Call> all = new ArrayList<>(look.first);
        all.addAll(reads);
        for (int i = 0; i < all.size(); i++) {
            if (!with.get(i).equals(without.get(i))) {
                return all.get(i).row + " from " + without.get(i) + " to " + with.get(i);
            }
        }
        return "nothing";
    }

    private static List<String> answers(List<Call> before, List<Call> idleCalls, List<Call> first,
            List<Call> reads) {
        StockRows2 x = new StockRows2();
        before.forEach(call -> answer(x, call));
        idleCalls.forEach(call -> answer(x, call));
        List<String> told = new ArrayList<>();
        first.forEach(call -> told.add(answer(x, call)));
        reads.forEach(call -> told.add(answer(x, call)));
        return told;
    }

    private static int made(List<Call> run, String name) {
        return (int) run.stream().filter(call -> call.name.equals(name)).count();
    }

    private static List<Look> looks(List<Call> before) {
        // One more of each than can be there: a refused call may not have made it.
        int stores = Math.min(9, made(before, "store") + 1);
        int lots = Math.min(61, made(before, "lot") + 1);
        int levels = made(before, "level");
        int orders = Math.min(81, levels * made(before, "orders") + made(before, "second") + 1);
        int emergencies = Math.min(21, made(before, "emergency") + 1);
        int differences = Math.min(81, made(before, "count") + 1);
        List<Call> there = grid("has", stores, lots);
        List<Call> sums = new ArrayList<>();
        for (int store = 0; store < stores; store++) {
            int at = store;
            sums.addAll(calls(times(30, i -> "sum(" + at + ", " + i / 3 + ", " + i % 3 + ")")));
        }
        List<Call> orderCells = grid("order", orders, 5);
        List<Call> laterOrderCells = grid("order", Math.min(81, orders + levels + emergencies), 5);
        List<Call> lotCells = grid("lotAt", lots, 6);
        List<Call> differenceCells = grid("difference", differences, 5);
        List<Call> dipping = calls(times(110, i -> "dip(" + i + ")"), "dip(49999)", "dip(99997)", "dip(99998)",
                "dip(99999)");
        List<Call> still = new ArrayList<>();
        List.of(there, sums, orderCells, lotCells, differenceCells, dipping).forEach(still::addAll);
        List<Look> looks = new ArrayList<>();
        looks.add(new Look(List.of(), still));
        looks.add(new Look(calls("orders()"), laterOrderCells));
        looks.add(new Look(calls("count(0, 0, 11, 7)", "count(0, 0, 12, 8)"), grid("difference", Math.min(81,
                differences + 2), 5)));
        looks.add(new Look(calls(times(31, i -> "tick(1)")), there));
        looks.add(new Look(calls(times(stores * 5, i -> "give(" + i / 5 + ", " + i % 5 + ")")), lotCells));
        looks.add(new Look(calls(times(emergencies * 2, i -> "second(" + i / 2 + ", " + (i % 2 == 0 ? 5 : 0) + ")")),
                laterOrderCells));
        looks.add(new Look(calls("move(0, 1, 0, 1, 0)", "move(1, 0, 0, 1, 1)", "emergency(0, 0, 1, 0)", "lot(0, 0)",
                "store()"), calls("row(99999, 99999)", "dip(99999)")));
        return looks;
    }

    private static List<Call> grid(String name, int first, int second) {
        return calls(times(first * second, i -> name + "(" + i / second + ", " + i % second + ")"));
    }

    private static String answer(StockRows2 x, Call call) {
        int[] a = call.args;
        try {
            return switch (call.name + a.length) {
                case "store0" -> "" + x.store();
                case "lot2" -> "" + x.lot(a[0], a[1]);
                case "bring3" -> "" + x.bring(a[0], a[1], a[2]);
                case "move5" -> "" + x.move(a[0], a[1], a[2], a[3], a[4]);
                case "use3" -> "" + x.use(a[0], a[1], a[2]);
                case "sum3" -> "" + x.sum(a[0], a[1], a[2]);
                case "has2" -> "" + x.has(a[0], a[1]);
                case "level4" -> {
                    x.level(a[0], a[1], a[2], a[3]);
                    yield "done";
                }
                case "orders0" -> "" + x.orders();
                case "order2" -> "" + x.order(a[0], a[1]);
                case "deliver2" -> "" + x.deliver(a[0], a[1]);
                case "emergency4" -> "" + x.emergency(a[0], a[1], a[2], a[3]);
                case "second2" -> "" + x.second(a[0], a[1]);
                case "count4" -> "" + x.count(a[0], a[1], a[2], a[3]);
                case "difference2" -> "" + x.difference(a[0], a[1]);
                case "kit3" -> {
                    x.kit(a[0], a[1], a[2]);
                    yield "done";
                }
                case "give2" -> "" + x.give(a[0], a[1]);
                case "back3" -> "" + x.back(a[0], a[1], a[2]);
                case "waste4" -> "" + x.waste(a[0], a[1], a[2], a[3]);
                case "lotAt2" -> "" + x.lotAt(a[0], a[1]);
                case "row2" -> "" + x.row(a[0], a[1]);
                case "dip1" -> "" + x.dip(a[0]);
                case "tick1" -> "" + x.tick(a[0]);
                default -> throw new IllegalCallerException("no such call: " + call.row);
            };
        } catch (RuntimeException e) {
            return refusal(e);
        }
    }

    /** By the class itself, not one above it: what the machine throws is no refusal. */
    private static String refusal(RuntimeException e) {
        if (e.getClass() == IllegalArgumentException.class) {
            return "unknown";
        }
        if (e.getClass() == IndexOutOfBoundsException.class) {
            return "range";
        }
        if (e.getClass() == IllegalStateException.class) {
            return "state";
        }
        return e.getClass() == UnsupportedOperationException.class ? "room" : e.getClass().getName();
    }
}
