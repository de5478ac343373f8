/** Promise 13: which exception map() throws, and that then there are the objects that there were. */
public final class Edge13LimitTest {
    private static final Check CHECK = new Check();

    public static void main(String[] args) {
        noSuchMethodOrValue();
        notBuilt();
        fourHundred();
        whatNeedsNone();
        whatFails();
        thoseThatThereWere();
        numbersAreUsedAgain();
        CHECK.end();
    }

    /** "IllegalArgumentException if there is no such method, or v is no value of its first type". */
    private static void noSuchMethodOrValue() {
        for (int built = 0; built < 2; built++) {
            BeanLoom loom = new BeanLoom();
            loom.bean();
            loom.bean();
            loom.enumeration(Looms.names(5, 6, 7), 3);
            loom.list(15);
            loom.method(15, 16);
            loom.method(17, 17);
            for (int type : new int[] {16, 15, 14, 7, 18}) {
                loom.make(type, 0);
            }
            if (built == 1) {
                loom.build();
            }
            for (int method : new int[] {-1, 2, 15, 16, Integer.MIN_VALUE, Integer.MAX_VALUE}) {
                CHECK.argument("no method: " + method, () -> loom.map(method, 1));
                CHECK.argument("no method, NULL: " + method, () -> loom.map(method, -1));
            }
            for (int v : new int[] {-2, 0, 2, 3, 4, 5, 399, 400, Integer.MIN_VALUE, Integer.MAX_VALUE}) {
                CHECK.argument("no value of the bean: " + v, () -> loom.map(0, v));
            }
            for (int v : new int[] {-2, 3, 5, 8, Integer.MIN_VALUE, Integer.MAX_VALUE}) {
                CHECK.argument("no value of the enum: " + v, () -> loom.map(1, v));
            }
            CHECK.same("none is made", loom.count(3), 5);
            if (built == 1) {
                CHECK.same("the last constant", loom.map(1, 2), 2);
                CHECK.same("the first constant", loom.map(1, 0), 0);
                CHECK.same("a bean", loom.map(0, 1), 5);
                CHECK.argument("the new one is of another type", loom, () -> loom.map(0, 5));
            }
        }
        BeanLoom full = new BeanLoom();
        full.bean();
        full.method(15, 15);
        full.build();
        Looms.fillObjects(full, 400);
        CHECK.argument("400 objects: the value is told first", () -> full.map(0, 399));
        CHECK.argument("400 objects: the method is told first", () -> full.map(1, -1));
        CHECK.argument("400", () -> full.map(0, 400));
    }

    /** "IllegalStateException if it is not built". */
    private static void notBuilt() {
        BeanLoom loom = Looms.pair(14, 3);
        int source = loom.make(15, 0);
        loom.put(source, 0, loom.make(14, 'x'));
        CHECK.state("what would FAIL", loom, () -> loom.map(0, source));
        CHECK.state("NULL", loom, () -> loom.map(0, -1));
        loom.build();
        CHECK.unsupported("built", loom, () -> loom.map(0, source));
        CHECK.same("NULL, built", loom.map(0, -1), -1);
        BeanLoom faulty = Looms.pair(14, 6);
        faulty.make(15, 0);
        CHECK.argument("a diagnosis", faulty::build);
        CHECK.state("a build() that was refused", faulty, () -> faulty.map(0, 0));
        BeanLoom full = new BeanLoom();
        full.bean();
        full.method(15, 15);
        for (int object = 0; object < 400; object++) {
            full.make(15, 0);
        }
        CHECK.state("400 objects", () -> full.map(0, 399));
    }

    /** A bean 17 of which a method makes a bean 18 and some more, as a number tells; rule 8 for beans 15. */
    private static BeanLoom crowded(int what) {
        BeanLoom loom = new BeanLoom();
        loom.bean();
        loom.bean();
        loom.bean();
        loom.bean();
        loom.list(10);
        loom.list(14);
        loom.list(15);
        loom.list(16);
        int[] from = {3, 3, 10, 3, 10, 19, 15, 15, 21, 14, 13, 3};
        int[] to = {11, 14, 11, 10, 14, 20, 16, 16, 22, 7, 12, 3};
        loom.property(17, 1, from[what]);
        loom.property(18, 1, to[what]);
        loom.function(10, 11, 1, 0);
        loom.function(7, 12, 1, 0);
        loom.method(15, 16);
        loom.method(17, 18);
        loom.rule(0, 8, 0, 1);
        if (what == 3) {
            loom.rule(1, 1, 1, 5);
        }
        loom.build();
        return loom;
    }

    /** "or there would be more than 400 objects": by whatever it is that is one too many. */
    private static void fourHundred() {
        String[] whats = {"a box", "a text", "a function's box", "a CONSTANT's box", "a text of a box", "a list of texts",
            "a bean", "a bean of NULL", "a list of beans of NULL", "a box of a text", "a box over the table", "a bean alone"};
        int[] needs = {2, 2, 2, 2, 2, 5, 2, 2, 4, 2, 2, 1};
        for (int what = 0; what < 12; what++) {
            for (int free = needs[what] + 1; free >= 0; free--) {
                BeanLoom loom = crowded(what);
                int source = loom.make(17, 0);
                if (what == 2 || what == 4) {
                    loom.put(source, 0, loom.make(10, 5));
                } else if (what == 5 || what == 8) {
                    int list = loom.make(what == 5 ? 19 : 21, 0);
                    int box = what == 5 ? loom.make(10, 5) : -1;
                    for (int i = 0; i < (what == 5 ? 3 : 2); i++) {
                        loom.put(list, 0, box);
                    }
                    loom.put(source, 0, list);
                } else if (what == 6) {
                    loom.put(source, 0, loom.make(15, 0));
                } else if (what == 9) {
                    loom.put(source, 0, loom.make(14, '5'));
                } else if (what == 10) {
                    loom.put(source, 0, loom.make(13, 0));
                }
                int before = 400 - free;
                Looms.fillObjects(loom, before);
                if (free >= needs[what]) {
                    CHECK.same(whats[what] + ": there is room", loom.map(1, source), before);
                    CHECK.same("it is all there", loom.count(3), before + needs[what]);
                } else {
                    CHECK.unsupported(whats[what] + ": one too many, of " + free, () -> loom.map(1, source));
                    CHECK.same("those that there were", loom.count(3), before);
                    CHECK.same("the last of them", loom.about(before - 1, 0), 14);
                    CHECK.bounds("none of the new ones", () -> loom.about(before, 0));
                }
            }
        }
        BeanLoom nulls = crowded(11);
        Looms.fillObjects(nulls, 399);
        CHECK.same("the 400th is of NULL", nulls.map(0, -1), 399);
        CHECK.unsupported("a 401st of NULL", () -> nulls.map(0, -1));
        CHECK.same("400 objects", nulls.count(3), 400);
    }

    /** A map() that makes nothing goes at 400 objects too. */
    private static void whatNeedsNone() {
        BeanLoom loom = new BeanLoom();
        loom.bean();
        loom.enumeration(Looms.names(1, 2), 2);
        loom.method(15, 15);
        loom.method(16, 16);
        loom.rule(1, 5, 1, 2);
        loom.build();
        loom.make(15, 0);
        Looms.fillObjects(loom, 400);
        CHECK.same("NULL", loom.map(0, -1), -1);
        CHECK.same("a constant", loom.map(1, 0), 1);
        CHECK.unsupported("a bean", () -> loom.map(0, 0));
        CHECK.same("NULL of an enum", loom.map(1, -1), -1);
        CHECK.same("400 objects", loom.count(3), 400);
    }

    /** "UnsupportedOperationException if something FAILS": at the first or the last place, in a list, in another bean. */
    private static void whatFails() {
        int[] types = {0, 7, 1, 8, 2, 9, 3, 10, 4, 11, 19};
        for (int type : types) {
            for (int place = 0; place < 4; place++) {
                BeanLoom loom = new BeanLoom();
                loom.bean();
                loom.bean();
                loom.list(14);
                loom.list(10);
                loom.enumeration(1, 1);
                loom.property(15, 0, 14);
                loom.property(15, 1, 15);
                loom.property(15, 2, 17);
                loom.property(15, 3, 14);
                loom.property(16, 0, type);
                loom.property(16, 1, 16);
                loom.property(16, 2, 18);
                loom.property(16, 3, type);
                loom.method(15, 16);
                loom.build();
                int source = loom.make(15, 0);
                int inner = loom.make(15, 0);
                int list = loom.make(17, 0);
                int good = loom.make(14, type == 19 ? Looms.bytes("n1") : '7');
                int seven = loom.make(14, '7');
                int bad = loom.make(14, Looms.bytes("7x"));
                loom.put(source, 0, place == 0 ? bad : good);
                loom.put(source, 1, inner);
                loom.put(source, 2, list);
                loom.put(source, 3, place == 3 ? bad : good);
                loom.put(inner, 3, place == 1 ? bad : good);
                loom.put(list, 0, seven);
                loom.put(list, 0, place == 2 ? bad : seven);
                CHECK.unsupported("type " + type + " at " + place, loom, () -> loom.map(0, source));
                CHECK.unsupported("once more", loom, () -> loom.map(0, source));
                loom.put(source, 0, good);
                loom.put(source, 3, good);
                loom.put(inner, 3, good);
                loom.put(source, 2, -1);
                CHECK.same("mended", loom.map(0, source), 6);
            }
        }
    }

    /** "then there are those that there were": with all their values, the mapped ones too. */
    private static void thoseThatThereWere() {
        BeanLoom loom = new BeanLoom();
        loom.bean();
        loom.bean();
        loom.enumeration(Looms.names(1, 2), 2);
        loom.enumeration(Looms.names(1), 1);
        loom.property(15, 0, 3);
        loom.property(15, 1, 15);
        loom.property(15, 2, 17);
        loom.property(16, 0, 14);
        loom.property(16, 1, 16);
        loom.property(16, 2, 18);
        loom.method(15, 16);
        loom.method(17, 18);
        loom.rule(1, 6, 0, -2);
        loom.build();
        int outer = loom.make(15, 0);
        int inner = loom.make(15, 0);
        loom.put(outer, 0, 77);
        loom.put(outer, 1, inner);
        loom.put(inner, 1, outer);
        CHECK.same("a map() that goes", loom.map(0, outer), 2);
        CHECK.same("two beans and two texts", loom.count(3), 6);
        loom.put(inner, 2, 1);
        CHECK.unsupported("a constant that FAILS", loom, () -> loom.map(0, outer));
        CHECK.unsupported("as the root's part", loom, () -> loom.map(0, inner));
        CHECK.unsupported("by itself", loom, () -> loom.map(1, 1));
        loom.put(inner, 2, 0);
        CHECK.same("a map() that goes again", loom.map(0, inner), 6);
        CHECK.same("its constant", loom.get(6, 2), 0);
    }

    /** What a map() that FAILS had begun leaves nothing in the objects that come next. */
    private static void numbersAreUsedAgain() {
        BeanLoom loom = new BeanLoom();
        loom.bean();
        loom.bean();
        loom.list(10);
        loom.list(14);
        loom.property(15, 0, 17);
        loom.property(15, 1, 14);
        loom.property(16, 0, 18);
        loom.property(16, 1, 3);
        loom.method(15, 16);
        loom.build();
        int source = loom.make(15, 0);
        int list = loom.make(17, 0);
        loom.put(source, 0, list);
        loom.put(list, 0, loom.make(10, -12345));
        loom.put(list, 0, loom.make(10, 67890));
        loom.put(source, 1, loom.make(14, '?'));
        CHECK.unsupported("at the last property", loom, () -> loom.map(0, source));
        CHECK.same("a bean", loom.make(16, 0), 5);
        CHECK.same("EMPTY", loom.get(5, 0), -1);
        CHECK.same("EMPTY too", loom.get(5, 1), 0);
        CHECK.same("a list", loom.make(18, 0), 6);
        CHECK.same("without values", loom.about(6, 1), 0);
        CHECK.same("a text", loom.make(14, 'a'), 7);
        CHECK.text("with one character", loom, 7, "a");
        CHECK.same("a box", loom.make(7, 3), 8);
        CHECK.same("with one value", loom.about(8, 1), 1);
        CHECK.bounds("and no more", loom, () -> loom.get(8, 1));
    }
}
