/** Promise 13, and what "Terms" says of beans that are taken again, of NULL and of the order in which objects are made. */
public final class Edge13GraphTest {
    private static final Check CHECK = new Check();

    public static void main(String[] args) {
        takenAgain();
        notByAnotherMethod();
        lastMethodAndObject();
        notInAnotherMap();
        notOfAnotherSource();
        nullIsNoSource();
        boxesTextsAndListsAreNew();
        orderOfProperties();
        orderOfConstantsAndFunctions();
        eachBeanBeforeTheNext();
        CHECK.end();
    }

    /** "A bean that the same method has already for the same source in this map() is taken again. (So also while ..)" */
    private static void takenAgain() {
        for (int length = 1; length <= 20; length++) {
            BeanLoom loom = new BeanLoom();
            loom.bean();
            loom.bean();
            loom.list(15);
            loom.list(16);
            loom.property(15, 0, 15);
            loom.property(15, 1, 17);
            loom.property(16, 0, 16);
            loom.property(16, 1, 18);
            loom.method(15, 16);
            loom.build();
            for (int bean = 0; bean < length; bean++) {
                loom.make(15, 0);
            }
            for (int bean = 0; bean < length; bean++) {
                loom.put(bean, 0, (bean + 1) % length);
            }
            int list = loom.make(17, 0);
            loom.put(0, 1, list);
            for (int i = 0; i < 16; i++) {
                loom.put(list, 0, i * 7 % length);
            }
            int root = loom.map(0, 0);
            CHECK.same("a bean each, and a list", loom.count(3), 2 * length + 2);
            int at = root;
            for (int bean = 0; bean < length; bean++) {
                CHECK.same("the next one", at, root + bean);
                at = (int) loom.get(at, 0);
            }
            CHECK.same("the root is taken again", at, root);
            int made = (int) loom.get(root, 1);
            CHECK.same("the list is behind the beans", made, root + length);
            for (int i = 0; i < 16; i++) {
                CHECK.same("taken again in the list", loom.get(made, i), root + i * 7 % length);
            }
        }
    }

    /** "the same method": another one has its own bean of the same source, also of the same type. */
    private static void notByAnotherMethod() {
        BeanLoom loom = new BeanLoom();
        loom.bean();
        loom.bean();
        loom.bean();
        loom.property(15, 0, 15);
        loom.property(16, 0, 17);
        loom.property(17, 0, 16);
        loom.method(15, 16);
        loom.method(15, 17);
        loom.build();
        loom.make(15, 0);
        loom.put(0, 0, 0);
        CHECK.same("by method 0", loom.map(0, 0), 1);
        CHECK.same("by method 1", loom.get(1, 0), 2);
        CHECK.same("by method 0 again", loom.get(2, 0), 1);
        CHECK.same("by method 1 first", loom.map(1, 0), 3);
        CHECK.same("then by method 0", loom.get(3, 0), 4);
        CHECK.same("five objects", loom.count(3), 5);
    }

    /** Each method has its own bean of each source: also the last method, of the last object that still leaves room. */
    private static void lastMethodAndObject() {
        for (int free = 1; free < 4; free++) {
            BeanLoom loom = new BeanLoom();
            loom.bean();
            loom.bean();
            for (int name = 0; name < 2; name++) {
                loom.property(15, name, 15);
                loom.property(16, name, 16);
            }
            for (int method = 0; method < 15; method++) {
                loom.method(16, 15);
                loom.rule(method, 2, 0, 0);
                loom.rule(method, 2, 1, 0);
            }
            loom.method(15, 16);
            loom.build();
            Looms.fillObjects(loom, 399 - free);
            int source = loom.make(15, 0);
            loom.put(source, 0, source);
            loom.put(source, 1, source);
            int target = loom.map(15, source);
            CHECK.same("one bean", target, 400 - free);
            CHECK.same("and no more", loom.count(3), 401 - free);
            CHECK.same("taken again", loom.get(target, 0), target);
            CHECK.same("taken again and again", loom.get(target, 1), target);
        }
    }

    /** "in this map()". */
    private static void notInAnotherMap() {
        BeanLoom loom = Looms.pair(14, 3);
        loom.build();
        int source = loom.make(15, 0);
        for (int turn = 1; turn < 5; turn++) {
            CHECK.same("a new bean", loom.map(0, source), turn);
        }
        int bad = loom.make(14, 'x');
        loom.put(source, 0, bad);
        CHECK.unsupported("a map() that FAILS", loom, () -> loom.map(0, source));
        loom.put(source, 0, -1);
        CHECK.same("a new bean behind it", loom.map(0, source), 6);
    }

    /** "for the same source": one that is alike is another one. */
    private static void notOfAnotherSource() {
        BeanLoom loom = new BeanLoom();
        loom.bean();
        loom.bean();
        for (int name = 0; name < 3; name++) {
            loom.property(15, name, 15);
            loom.property(16, name, 16);
        }
        loom.method(15, 16);
        loom.build();
        loom.make(15, 0);
        loom.make(15, 0);
        loom.make(15, 0);
        loom.put(0, 0, 1);
        loom.put(0, 1, 2);
        loom.put(0, 2, 1);
        CHECK.same("the root", loom.map(0, 0), 3);
        CHECK.same("of 1", loom.get(3, 0), 4);
        CHECK.same("of 2", loom.get(3, 1), 5);
        CHECK.same("of 1 again", loom.get(3, 2), 4);
        CHECK.same("no more", loom.count(3), 6);
    }

    /** "NULL becomes NULL, or, with rule 8, a new bean": each NULL a new one, that has the EMPTY values. */
    private static void nullIsNoSource() {
        for (int with = 0; with < 2; with++) {
            BeanLoom loom = new BeanLoom();
            loom.bean();
            loom.bean();
            loom.list(15);
            loom.list(16);
            loom.bean();
            loom.bean();
            loom.property(15, 0, 3);
            loom.property(16, 0, 3);
            loom.property(19, 0, 15);
            loom.property(19, 1, 17);
            loom.property(19, 2, 15);
            loom.property(20, 0, 16);
            loom.property(20, 1, 18);
            loom.property(20, 2, 16);
            loom.method(15, 16);
            loom.method(19, 20);
            loom.rule(0, 1, 0, 9);
            loom.rule(0, 8, 0, with);
            loom.build();
            int source = loom.make(19, 0);
            int list = loom.make(17, 0);
            loom.put(source, 1, list);
            loom.put(list, 0, -1);
            loom.put(list, 0, -1);
            int target = loom.map(1, source);
            int made = (int) loom.get(target, 1);
            if (with == 0) {
                CHECK.same("NULL is NULL", loom.get(target, 0), -1);
                CHECK.same("in the list", loom.get(made, 0), -1);
                CHECK.same("in the list again", loom.get(made, 1), -1);
                CHECK.same("a bean and a list", loom.count(3), 4);
            } else {
                CHECK.same("a new bean", loom.get(target, 0), 3);
                CHECK.same("then the list", made, 4);
                CHECK.same("a new bean in it", loom.get(made, 0), 5);
                CHECK.same("another one in it", loom.get(made, 1), 6);
                CHECK.same("another one behind it", loom.get(target, 2), 7);
                CHECK.same("its CONSTANT is EMPTY", loom.get(7, 0), 0);
                CHECK.same("no more", loom.count(3), 8);
            }
            CHECK.same("map() of NULL itself", loom.map(0, -1), with == 0 ? -1 : 8);
            CHECK.same("by a method without rule 8", loom.map(1, -1), -1);
        }
    }

    /** Just beans are taken again: the same box, text or list becomes a new one each time. */
    private static void boxesTextsAndListsAreNew() {
        BeanLoom loom = new BeanLoom();
        loom.list(10);
        loom.list(14);
        loom.bean();
        loom.bean();
        int[] from = {10, 10, 10, 10, 15, 15};
        int[] to = {11, 11, 14, 14, 16, 16};
        for (int name = 0; name < 6; name++) {
            loom.property(17, name, from[name]);
            loom.property(18, name, to[name]);
        }
        loom.method(17, 18);
        loom.build();
        loom.make(17, 0);
        loom.make(10, 5);
        loom.make(15, 0);
        for (int at = 0; at < 6; at++) {
            loom.put(0, at, at < 4 ? 1 : 2);
        }
        loom.map(0, 0);
        for (int at = 0; at < 6; at++) {
            CHECK.same("a new one", loom.get(3, at), 4 + at);
        }
        CHECK.same("no more", loom.count(3), 10);
    }

    /** "the bean; then for each property, in order, its box or text ..; or its list, and then what its values need". */
    private static void orderOfProperties() {
        BeanLoom loom = new BeanLoom();
        loom.bean();
        loom.bean();
        loom.list(15);
        loom.list(16);
        loom.list(10);
        loom.list(11);
        int[] from = {10, 19, 15, 10, 17, 3, 15, 10};
        int[] to = {14, 20, 16, 11, 18, 3, 16, 14};
        for (int name = 0; name < 8; name++) {
            loom.property(15, name, from[name]);
            loom.property(16, name, to[name]);
        }
        loom.method(15, 16);
        loom.build();
        int box = loom.make(10, 1);
        int boxes = loom.make(19, 0);
        loom.put(boxes, 0, box);
        loom.put(boxes, 0, box);
        int inner = loom.make(15, 0);
        int other = loom.make(15, 0);
        int beans = loom.make(17, 0);
        loom.put(beans, 0, other);
        loom.put(beans, 0, inner);
        loom.put(inner, 0, box);
        loom.put(inner, 7, box);
        loom.put(other, 3, box);
        int root = loom.make(15, 0);
        long[] values = {box, boxes, inner, box, beans, 9, other, box};
        for (int at = 0; at < 8; at++) {
            loom.put(root, at, values[at]);
        }
        CHECK.same("the bean", loom.map(0, root), 6);
        long[] due = {7, 8, 11, 14, 15, 9, 16, 18};
        for (int at = 0; at < 8; at++) {
            CHECK.same("property " + at, loom.get(6, at), due[at]);
        }
        CHECK.same("the list's first", loom.get(8, 0), 9);
        CHECK.same("the list's second", loom.get(8, 1), 10);
        CHECK.same("the inner bean's first text", loom.get(11, 0), 12);
        CHECK.same("its last text", loom.get(11, 7), 13);
        CHECK.same("the list's new bean", loom.get(15, 0), 16);
        CHECK.same("its box", loom.get(16, 3), 17);
        CHECK.same("the bean that there is", loom.get(15, 1), 11);
        CHECK.same("no more", loom.count(3), 19);
    }

    /** CONSTANT, DEFAULT, BY and functions over the table make their boxes and texts in the same order. */
    private static void orderOfConstantsAndFunctions() {
        BeanLoom loom = new BeanLoom();
        loom.bean();
        loom.bean();
        loom.property(15, 0, 10);
        int[] to = {11, 14, 12, 10, 14, 7, 11, 12};
        for (int name = 0; name < 8; name++) {
            loom.property(16, name, to[name]);
        }
        loom.function(10, 11, 1, 1);
        loom.function(11, 12, 1, 0);
        loom.method(15, 16);
        for (int name = 1; name < 8; name++) {
            if (name == 1 || name == 6) {
                loom.rule(0, 1, name, 40 + name);
            } else {
                loom.rule(0, 0, name, Looms.path(0));
            }
            loom.rule(0, 3, name, 50 + name);
        }
        loom.rule(0, 4, 0, 0);
        loom.build();
        int source = loom.make(15, 0);
        int box = loom.make(10, 5);
        int target = loom.map(0, source);
        long[] nulls = {-1, 3, 4, 5, 6, 7, 8, 9};
        for (int at = 0; at < 8; at++) {
            CHECK.same("DEFAULT or CONSTANT at " + at, loom.get(target, at), nulls[at]);
        }
        loom.put(source, 0, box);
        target = loom.map(0, source);
        long[] due = {11, 12, 13, box, 14, 15, 16, 17};
        for (int at = 0; at < 8; at++) {
            CHECK.same("value or CONSTANT at " + at, loom.get(target, at), due[at]);
        }
        CHECK.same("no more", loom.count(3), 18);
    }

    /** "or its bean, which gets all its properties before the next one is looked at": a tree, seven levels deep. */
    private static void eachBeanBeforeTheNext() {
        BeanLoom loom = new BeanLoom();
        loom.bean();
        loom.bean();
        for (int name = 0; name < 2; name++) {
            loom.property(15, name, 15);
            loom.property(16, 1 - name, 16);
        }
        loom.method(15, 16);
        loom.build();
        for (int bean = 0; bean < 63; bean++) {
            loom.make(15, 0);
        }
        for (int bean = 0; bean < 31; bean++) {
            loom.put(bean, 0, 2 * bean + 1);
            loom.put(bean, 1, 2 * bean + 2);
        }
        CHECK.same("the root", loom.map(0, 0), 63);
        CHECK.same("63 beans", loom.count(3), 126);
        CHECK.same("all are numbered", numbered(loom, 63, 0, 63), 126);
    }

    /** Looks at a bean's number, then at those of its parts in the order of its properties; the next number. */
    private static int numbered(BeanLoom loom, int bean, int source, int due) {
        CHECK.same("source " + source, bean, due);
        int next = due + 1;
        for (int at = 0; at < 2; at++) {
            int part = (int) loom.get(bean, at);
            int partSource = 2 * source + 2 - at;
            if (partSource < 63) {
                next = numbered(loom, part, partSource, next);
            } else {
                CHECK.same("a leaf", part, -1);
            }
        }
        return next;
    }
}
