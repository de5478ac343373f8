/** Promise 13, and what "Terms" says of HOW a value comes from one type to another one: the first that can be. */
public final class Edge13WaysTest {
    private static final Check CHECK = new Check();

    public static void main(String[] args) {
        theSameValue();
        aFunction();
        aMethod();
        theTableBeforeFunctionsOverIt();
        aFunctionOverTheTable();
        valuesOfLists();
        listsOfEach();
        listsInLists();
        lastTypes();
        CHECK.end();
    }

    /** "(1) A is B: the same value.": before a function, a method or a new list; nothing is made. */
    private static void theSameValue() {
        BeanLoom loom = new BeanLoom();
        loom.bean();
        loom.enumeration(Looms.names(1, 2), 2);
        loom.list(15);
        loom.list(16);
        loom.bean();
        int[] types = {3, 10, 12, 14, 15, 16, 17, 18};
        for (int name = 0; name < 8; name++) {
            loom.property(19, name, types[name]);
        }
        loom.function(3, 3, 100, 1);
        loom.function(10, 10, 100, 1);
        loom.function(10, 10, 100, 1);
        loom.function(12, 12, 100, 1);
        loom.method(15, 15);
        loom.method(15, 15);
        loom.method(16, 16);
        loom.rule(2, 5, 1, 2);
        loom.method(19, 19);
        CHECK.same("nothing is AMBIGUOUS", loom.build(), 4);
        long[] values = {7, loom.make(10, 5), loom.make(12, 1), loom.make(14, 'x'), loom.make(15, 0), 0, loom.make(17, 0),
            loom.make(18, 0)};
        int source = loom.make(19, 0);
        int nulls = loom.make(19, 0);
        for (int at = 0; at < 8; at++) {
            CHECK.yes("put", loom.put(source, at, values[at]));
        }
        int before = loom.count(3);
        int target = loom.map(3, source);
        CHECK.same("the bean alone is made", loom.count(3), before + 1);
        for (int at = 0; at < 8; at++) {
            CHECK.same("the same value at " + at, loom.get(target, at), values[at]);
        }
        target = loom.map(3, nulls);
        for (int at = 0; at < 8; at++) {
            CHECK.same("the same NULL at " + at, loom.get(target, at), at == 0 ? 0 : -1);
        }
        CHECK.same("by the method alone it becomes another", loom.map(2, 0), 1);
    }

    /** "(2) A FUNCTION from A to B that is not NAMED": before the table; just from A, just to B. */
    private static void aFunction() {
        int[][] exact = {{3, 4}, {3, 11}, {10, 4}, {10, 11}, {0, 7}, {7, 0}, {5, 12}, {12, 5}};
        for (int[] types : exact) {
            BeanLoom loom = Looms.pair(types[0], types[1]);
            loom.function(types[0], (types[1] + 7) % 14, 1, 1);
            loom.function((types[0] + 7) % 14, types[1], 1, 1);
            loom.build();
            CHECK.same("not just so: by the table", mapped(loom, types[0], types[1], 1), 1);
            loom = Looms.pair(types[0], types[1]);
            loom.function(types[0], types[1], 0, 0);
            loom.function(types[0], (types[1] + 7) % 14, 1, 1);
            loom.build();
            CHECK.same("just so: by it", mapped(loom, types[0], types[1], 1), 0);
        }
    }

    private static long mapped(BeanLoom loom, int from, int to, long v) {
        int source = loom.make(15, 0);
        loom.put(source, 0, from < 7 ? v : loom.make(from, v));
        long got = loom.get(loom.map(0, source), 0);
        return to < 7 ? got : loom.get((int) got, 0);
    }

    /** "(3) A METHOD from A to B". */
    private static void aMethod() {
        BeanLoom loom = new BeanLoom();
        loom.bean();
        loom.bean();
        loom.enumeration(Looms.names(1, 2), 2);
        loom.enumeration(Looms.names(2, 1), 2);
        loom.bean();
        loom.property(15, 1, 17);
        loom.property(15, 2, 15);
        loom.property(16, 1, 18);
        loom.property(16, 2, 16);
        loom.method(16, 15);
        loom.method(18, 17);
        loom.method(15, 16);
        loom.method(17, 18);
        loom.build();
        int inner = loom.make(15, 0);
        int outer = loom.make(15, 0);
        loom.put(inner, 0, 0);
        loom.put(outer, 0, 1);
        loom.put(outer, 1, inner);
        int target = loom.map(2, outer);
        CHECK.same("by the method of enums", loom.get(target, 0), 0);
        int part = (int) loom.get(target, 1);
        CHECK.same("by the method of beans", loom.about(part, 0), 16);
        CHECK.same("its own enum", loom.get(part, 0), 1);
        CHECK.same("NULL becomes NULL", loom.get(part, 1), -1);
        CHECK.same("two beans are made", loom.count(3), 4);
    }

    /** "(4) THE TABLE." goes before "(5) A FUNCTION from C to B". */
    private static void theTableBeforeFunctionsOverIt() {
        BeanLoom loom = Looms.pair(3, 4);
        loom.function(10, 4, 1, 1);
        loom.function(0, 4, 1, 1);
        loom.build();
        CHECK.same("INT to LONG", mapped(loom, 3, 4, 1000), 1000);
        loom = Looms.pair(14, 3);
        loom.function(4, 3, 1, 1);
        loom.build();
        int source = loom.make(15, 0);
        loom.put(source, 0, loom.make(14, '7'));
        CHECK.same("TEXT to INT", loom.get(loom.map(0, source), 0), 7);
        loom = Looms.pair(14, 12);
        loom.function(3, 12, 1, 1);
        loom.build();
        source = loom.make(15, 0);
        loom.put(source, 0, loom.make(14, '1'));
        CHECK.same("TEXT to a box of BOOLEAN", loom.get((int) loom.get(loom.map(0, source), 0), 0), 0);
    }

    /** "(5) A FUNCTION from C to B that is not NAMED, if the table converts A to C": with the CAST to C, then its own. */
    private static void aFunctionOverTheTable() {
        int[][] ways = {{4, 0, 5}, {4, 7, 5}, {4, 2, 12}, {3, 1, 12}, {10, 8, 5}, {6, 3, 5}, {13, 11, 12}, {6, 0, 12}, {2, 0, 5},
            {11, 3, 5}};
        for (int[] way : ways) {
            for (long v : new long[] {0, 1, 2, 127, 128, 255, 256, 32767, 65535, -1, -2, -129}) {
                int kind = way[0] % 7;
                if (kind == 2 && v < 0) {
                    continue;
                }
                BeanLoom loom = Looms.pair(way[0], way[2]);
                loom.function(way[1], way[2], 3, 1);
                loom.build();
                long given = kind == 6 ? Double.doubleToRawLongBits(v + (v < 0 ? -0.5 : 0.5)) : v;
                int c = way[1] % 7;
                long x = c == 0 ? (byte) v : c == 1 ? (short) v : c == 2 ? (char) v : c == 3 ? (int) v : v;
                CHECK.same(v + " of " + way[0] + " over " + way[1], mapped(loom, way[0], way[2], given), x * 3 + 1 & 1);
                CHECK.same("nothing is made of what is between", loom.count(3), 2 + (way[0] > 6 ? 1 : 0)
                        + (way[2] > 6 ? 1 : 0));
            }
        }
        double[] reals = {1e18, -1e18, 4294967296.0, 2147483648.0, 0.9, -0.9, Double.POSITIVE_INFINITY};
        for (double real : reals) {
            for (int over = 0; over < 5; over++) {
                BeanLoom loom = Looms.pair(6, 5);
                loom.function(over, 5, 1, 0);
                loom.build();
                // To all but LONG over INT, so beyond its range its ends, of which the upper one is odd.
                long due = over == 4 ? (long) real & 1 : (int) real & 1;
                CHECK.same(real + " over " + over, mapped(loom, 6, 5, Double.doubleToRawLongBits(real)), due);
            }
        }
        int[][] bits = {{5, 12, 4}, {5, 12, 11}, {12, 5, 4}, {12, 5, 10}};
        for (int[] way : bits) {
            for (long v = 0; v < 2; v++) {
                BeanLoom loom = Looms.pair(way[0], way[2]);
                loom.function(way[1], way[2], 10, 7);
                loom.build();
                CHECK.same("BOOLEAN over its box", mapped(loom, way[0], way[2], v), v * 10 + 7);
            }
        }
        int[][] nulls = {{10, 4, 5}, {10, 11, 12}, {13, 3, 5}, {14, 3, 5}, {12, 5, 3}, {12, 5, 10}};
        for (int[] way : nulls) {
            BeanLoom loom = Looms.pair(way[0], way[2]);
            loom.function(way[1], way[2], 10, 7);
            loom.build();
            loom.make(15, 0);
            CHECK.same("NULL: the EMPTY value", loom.get(loom.map(0, 0), 0), way[2] < 7 ? 0 : -1);
            CHECK.same("no box is made", loom.count(3), 2);
        }
        overWhatTheTableCantReach();
    }

    private static void overWhatTheTableCantReach() {
        int[][] none = {{3, 5, 12}, {3, 12, 5}, {10, 5, 12}, {6, 5, 12}, {13, 12, 5}, {5, 3, 4}, {12, 3, 4}, {5, 10, 11},
            {15, 3, 4}, {17, 3, 4}, {18, 3, 4}};
        for (int[] way : none) {
            BeanLoom loom = new BeanLoom();
            loom.bean();
            loom.bean();
            loom.enumeration(1, 1);
            loom.list(14);
            loom.property(15, 1, way[0]);
            loom.property(16, 1, way[2]);
            loom.function(way[1], way[2], 1, 0);
            loom.method(15, 16);
            CHECK.diagnosis(way[0] + " over " + way[1] + " to " + way[2], loom, 6, 0, 0);
        }
    }

    /** "(6) Both are lists: a new list of what its values become ..; NULL becomes NULL." */
    private static void valuesOfLists() {
        for (int size = 0; size <= 16; size++) {
            BeanLoom loom = new BeanLoom();
            loom.list(10);
            loom.list(14);
            loom.bean();
            loom.bean();
            loom.property(17, 1, 15);
            loom.property(18, 1, 16);
            loom.method(17, 18);
            loom.build();
            int source = loom.make(17, 0);
            int list = loom.make(15, 0);
            CHECK.same("NULL becomes NULL", loom.get(loom.map(0, source), 0), -1);
            loom.put(source, 0, list);
            for (int i = 0; i < size; i++) {
                loom.put(list, 0, i % 5 == 4 ? -1 : loom.make(10, 100 + i));
            }
            int before = loom.count(3);
            int made = (int) loom.get(loom.map(0, source), 0);
            CHECK.same("behind the bean", made, before + 1);
            CHECK.same("its type", loom.about(made, 0), 16);
            CHECK.same("as many values", loom.about(made, 1), size);
            for (int i = 0; i < size; i++) {
                if (i % 5 == 4) {
                    CHECK.same("NULL in it", loom.get(made, i), -1);
                } else {
                    CHECK.text("value " + i, loom, loom.get(made, i), Integer.toString(100 + i));
                }
            }
            CHECK.same("the source keeps its values", loom.about(list, 1), size);
        }
    }

    /** Lists of which the values come by each way. */
    private static void listsOfEach() {
        BeanLoom loom = new BeanLoom();
        loom.enumeration(Looms.names(1, 2), 2);
        loom.enumeration(Looms.names(2, 1), 2);
        loom.bean();
        loom.bean();
        int[] from = {15, 15, 14, 10, 11, 17, 14};
        int[] to = {16, 14, 15, 12, 8, 18, 9};
        loom.bean();
        loom.bean();
        for (int name = 0; name < 7; name++) {
            loom.property(19, name, loom.list(from[name]));
            loom.property(20, name, loom.list(to[name]));
        }
        loom.function(4, 12, 1, 1);
        loom.function(11, 8, 2, 0);
        loom.method(15, 16);
        loom.method(17, 18);
        loom.method(19, 20);
        CHECK.same("each has a way", loom.build(), 3);
        int source = loom.make(19, 0);
        int inner = loom.make(17, 0);
        long[] values = {1, 0, loom.make(14, Looms.bytes("n2")), loom.make(10, 6), loom.make(11, 40000), inner,
            loom.make(14, 'Z')};
        for (int at = 0; at < 7; at++) {
            int list = loom.make(loom.list(from[at]), 0);
            CHECK.yes("put", loom.put(source, at, list));
            CHECK.yes("a value", loom.put(list, 0, values[at]));
            CHECK.yes("NULL", loom.put(list, 0, -1));
            CHECK.yes("once more", loom.put(list, 0, values[at]));
        }
        int target = loom.map(2, source);
        for (int at = 0; at < 7; at++) {
            int list = (int) loom.get(target, at);
            CHECK.same("three values", loom.about(list, 1), 3);
            CHECK.same("NULL is NULL", loom.get(list, 1), -1);
            long got = loom.get(list, 2);
            if (at == 0) {
                CHECK.same("a method of enums", got, 0);
            } else if (at == 1) {
                CHECK.text("an enum to TEXT", loom, got, "n1");
            } else if (at == 2) {
                CHECK.same("TEXT to an enum", got, 1);
            } else if (at == 5) {
                CHECK.same("a method of beans", loom.about((int) got, 0), 18);
                CHECK.same("the same bean is taken again", loom.get(list, 0), got);
            } else {
                CHECK.no("a new object each time", loom.get(list, 0) == got);
                CHECK.same("its type", loom.about((int) got, 0), to[at]);
                CHECK.same("its value", loom.get((int) got, 0), at == 3 ? 1 : at == 4 ? 80000 - 65536 : 'Z');
            }
        }
    }

    /** Lists of lists: a NULL list in a list is NULL, an empty one is empty; objects come in order. */
    private static void listsInLists() {
        BeanLoom loom = new BeanLoom();
        loom.list(10);
        loom.list(15);
        loom.list(14);
        loom.list(17);
        loom.bean();
        loom.bean();
        loom.property(19, 1, 16);
        loom.property(20, 1, 18);
        loom.method(19, 20);
        loom.build();
        int source = loom.make(19, 0);
        int outer = loom.make(16, 0);
        int empty = loom.make(15, 0);
        int two = loom.make(15, 0);
        loom.put(two, 0, loom.make(10, 1));
        loom.put(two, 0, loom.make(10, 2));
        loom.put(source, 0, outer);
        loom.put(outer, 0, two);
        loom.put(outer, 0, -1);
        loom.put(outer, 0, empty);
        loom.put(outer, 0, two);
        int target = loom.map(0, source);
        CHECK.same("the bean", target, 6);
        CHECK.same("the list", loom.get(6, 0), 7);
        CHECK.same("four values", loom.about(7, 1), 4);
        CHECK.same("the list in it", loom.get(7, 0), 8);
        CHECK.same("its first text", loom.get(8, 0), 9);
        CHECK.same("its second text", loom.get(8, 1), 10);
        CHECK.same("NULL", loom.get(7, 1), -1);
        CHECK.same("an empty one", loom.get(7, 2), 11);
        CHECK.same("without values", loom.about(11, 1), 0);
        CHECK.same("the same list once more: a new one", loom.get(7, 3), 12);
        CHECK.same("with new texts", loom.get(12, 0), 13);
        CHECK.text("2", loom, loom.get(12, 1), "2");
        CHECK.same("no more", loom.count(3), 15);
    }

    /** Lists, beans and enums that are the last of 40 types go as all others do. */
    private static void lastTypes() {
        for (int turn = 0; turn < 2; turn++) {
            BeanLoom loom = new BeanLoom();
            loom.bean();
            loom.bean();
            Looms.fillTypes(loom, 34);
            loom.enumeration(Looms.names(1, 2), 2);
            loom.enumeration(Looms.names(2, 1), 2);
            loom.bean();
            loom.bean();
            int first = loom.list(turn == 0 ? 10 : 36);
            int last = loom.list(turn == 0 ? 14 : 37);
            CHECK.same("the last of all", last, 39);
            loom.property(15, 1, turn == 0 ? last : first);
            loom.property(16, 1, turn == 0 ? first : last);
            loom.property(36, 1, 34);
            loom.property(37, 1, 35);
            loom.method(15, 16);
            loom.method(36, 37);
            loom.method(34, 35);
            loom.build();
            int source = loom.make(15, 0);
            int list = loom.make(turn == 0 ? last : first, 0);
            int value = turn == 0 ? loom.make(14, '8') : loom.make(36, 0);
            loom.put(source, 0, list);
            loom.put(list, 0, value);
            loom.put(value, 0, 0);
            int made = (int) loom.get(loom.map(0, source), 0);
            CHECK.same("its type", loom.about(made, 0), turn == 0 ? first : last);
            int got = (int) loom.get(made, 0);
            CHECK.same("its value", loom.get(got, 0), turn == 0 ? 8 : 1);
            CHECK.same("its value's type", loom.about(got, 0), turn == 0 ? 10 : 37);
        }
    }
}
