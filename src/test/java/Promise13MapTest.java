/** Promise 13: map: what it refuses, the ways of values, the order of new objects, graphs and limits. */
public final class Promise13MapTest {
    private static final Check CHECK = new Check();

    public static void main(String[] args) {
        refusals();
        graphs();
        orderOfObjects();
        lists();
        deepLists();
        nulls();
        twoMethods();
        limits();
        longChain();
        overTheTable();
        namedFunctions();
        enumsInBeans();
        afterFailing();
        builtTwice();
        CHECK.end();
    }

    private static void refusals() {
        BeanLoom loom = new BeanLoom();
        int bean = loom.bean();
        int other = loom.bean();
        int enumeration = loom.enumeration(0x0201, 2);
        loom.method(bean, other);
        loom.method(enumeration, enumeration);
        int object = loom.make(bean, 0);
        int wrong = loom.make(other, 0);
        CHECK.state("not built", () -> loom.map(0, object));
        CHECK.state("not built, NULL", () -> loom.map(0, -1));
        CHECK.argument("not built, and no such method", () -> loom.map(2, object));
        CHECK.argument("not built, and no value", () -> loom.map(0, 99));
        loom.build();
        CHECK.argument("no such method: 2", () -> loom.map(2, object));
        CHECK.argument("no such method: -1", () -> loom.map(-1, object));
        CHECK.argument("an object of another type", () -> loom.map(0, wrong));
        CHECK.argument("no such object", () -> loom.map(0, 2));
        CHECK.argument("-2", () -> loom.map(0, -2));
        CHECK.argument("no constant: 2", () -> loom.map(1, 2));
        CHECK.argument("no constant: -2", () -> loom.map(1, -2));
        CHECK.same("nothing was made", loom.count(3), 2);
        CHECK.same("a bean", loom.map(0, object), 2);
        CHECK.same("its type", loom.about(2, 0), other);
        CHECK.same("once more: another one", loom.map(0, object), 3);
        CHECK.same("NULL", loom.map(0, -1), -1);
        CHECK.same("a constant", loom.map(1, 1), 1);
    }

    private static void graphs() {
        BeanLoom loom = new BeanLoom();
        int from = loom.bean();
        int to = loom.bean();
        loom.property(from, 1, from);
        loom.property(from, 2, from);
        loom.property(to, 2, to);
        loom.property(to, 1, to);
        loom.property(to, 3, from);
        loom.method(from, to);
        loom.rule(0, 0, 3, 2);
        loom.build();
        int a = loom.make(from, 0);
        int b = loom.make(from, 0);
        int c = loom.make(from, 0);
        loom.put(a, 0, b);
        loom.put(a, 1, c);
        loom.put(b, 0, a);
        loom.put(b, 1, b);
        loom.put(c, 0, c);
        loom.put(c, 1, b);
        int root = loom.map(0, a);
        CHECK.same("the root first", root, 3);
        CHECK.same("three beans", loom.count(3), 6);
        CHECK.same("a.2 is c, the first met", loom.get(3, 0), 4);
        CHECK.same("c.2 is b, met before a.1", loom.get(4, 0), 5);
        CHECK.same("c.1 is c itself", loom.get(4, 1), 4);
        CHECK.same("b.2 is b itself", loom.get(5, 0), 5);
        CHECK.same("b.1 is the root", loom.get(5, 1), 3);
        CHECK.same("a.1 is b, taken again", loom.get(3, 1), 5);
        CHECK.same("the same type: the same bean", loom.get(3, 2), b);
        CHECK.same("the next map() makes new ones", loom.map(0, a), 6);
        CHECK.same("three more", loom.count(3), 9);
    }

    private static void orderOfObjects() {
        BeanLoom loom = new BeanLoom();
        int in = loom.bean();
        int out = loom.bean();
        int inner = loom.bean();
        int innerOut = loom.bean();
        int ins = loom.list(inner);
        int outs = loom.list(innerOut);
        loom.property(inner, 1, 3);
        loom.property(innerOut, 1, 14);
        loom.property(in, 1, 3);
        loom.property(in, 2, inner);
        loom.property(in, 3, ins);
        loom.property(in, 4, 3);
        loom.property(out, 1, 11);
        loom.property(out, 2, innerOut);
        loom.property(out, 3, outs);
        loom.property(out, 4, 14);
        loom.method(inner, innerOut);
        loom.method(in, out);
        loom.build();
        int one = loom.make(inner, 0);
        int two = loom.make(inner, 0);
        int list = loom.make(ins, 0);
        int bean = loom.make(in, 0);
        loom.put(one, 0, 1);
        loom.put(two, 0, 2);
        loom.put(list, 0, two);
        loom.put(list, 0, one);
        loom.put(bean, 0, 7);
        loom.put(bean, 1, one);
        loom.put(bean, 2, list);
        loom.put(bean, 3, 8);
        CHECK.same("the bean", loom.map(1, bean), 4);
        CHECK.same("its box", loom.get(4, 0), 5);
        CHECK.same("its bean", loom.get(4, 1), 6);
        CHECK.same("the text of that before the next", loom.get(6, 0), 7);
        CHECK.same("its list", loom.get(4, 2), 8);
        CHECK.same("what its values need", loom.get(8, 0), 9);
        CHECK.same("the text of that", loom.get(9, 0), 10);
        CHECK.same("what is there already", loom.get(8, 1), 6);
        CHECK.same("its text", loom.get(4, 3), 11);
        CHECK.text("one", loom, 7, "1");
        CHECK.text("two", loom, 10, "2");
        CHECK.text("eight", loom, 11, "8");
        CHECK.same("the box has", loom.get(5, 0), 7);
        CHECK.same("no more", loom.count(3), 12);
    }

    private static void lists() {
        BeanLoom loom = new BeanLoom();
        int texts = loom.list(14);
        int boxes = loom.list(10);
        int from = loom.bean();
        int to = loom.bean();
        loom.property(from, 1, boxes);
        loom.property(from, 2, texts);
        loom.property(to, 1, texts);
        loom.property(to, 2, texts);
        loom.method(from, to);
        loom.build();
        int list = loom.make(boxes, 0);
        int same = loom.make(texts, 0);
        int bean = loom.make(from, 0);
        loom.put(bean, 0, list);
        loom.put(bean, 1, same);
        int empty = loom.map(0, bean);
        CHECK.same("an empty list: a new one", loom.get(empty, 0), 4);
        CHECK.same("without values", loom.about(4, 1), 0);
        CHECK.same("a list of the same type: itself", loom.get(empty, 1), same);
        for (int i = 0; i < 16; i++) {
            loom.put(list, 0, i == 3 ? -1 : loom.make(10, i * 11));
        }
        int before = loom.count(3);
        int got = loom.map(0, bean);
        int made = (int) loom.get(got, 0);
        CHECK.same("16 values", loom.about(made, 1), 16);
        CHECK.same("NULL in it", loom.get(made, 3), -1);
        CHECK.text("the last one", loom, loom.get(made, 15), "165");
        CHECK.same("in order", loom.get(made, 4), before + 5);
        CHECK.same("the source keeps its values", loom.about(list, 1), 16);
        loom.put(bean, 0, -1);
        CHECK.same("NULL becomes NULL", loom.get(loom.map(0, bean), 0), -1);
    }

    private static void deepLists() {
        BeanLoom loom = new BeanLoom();
        int from = loom.bean();
        int to = loom.bean();
        int boxes = 10;
        int texts = 14;
        for (int depth = 0; depth < 11; depth++) {
            boxes = loom.list(boxes);
            texts = loom.list(texts);
        }
        loom.property(from, 1, boxes);
        loom.property(to, 1, texts);
        loom.method(from, to);
        loom.build();
        int value = loom.make(10, -42);
        for (int type = 17; type <= boxes; type += 2) {
            int list = loom.make(type, 0);
            loom.put(list, 0, value);
            value = list;
        }
        int bean = loom.make(from, 0);
        loom.put(bean, 0, value);
        long at = loom.get(loom.map(0, bean), 0);
        for (int depth = 0; depth < 11; depth++) {
            CHECK.same("lists of lists", loom.about((int) at, 0), texts - 2 * depth);
            at = loom.get((int) at, 0);
        }
        CHECK.text("the value in them", loom, at, "-42");
    }

    private static void nulls() {
        BeanLoom loom = new BeanLoom();
        int from = loom.bean();
        int to = loom.bean();
        int froms = loom.list(from);
        int tos = loom.list(to);
        loom.property(from, 1, froms);
        loom.property(to, 1, tos);
        loom.property(from, 2, from);
        loom.property(to, 2, to);
        loom.property(to, 3, 3);
        loom.method(from, to);
        loom.rule(0, 8, 0, 1);
        loom.rule(0, 1, 3, 5);
        loom.build();
        int list = loom.make(froms, 0);
        loom.put(list, 0, -1);
        loom.put(list, 0, -1);
        int bean = loom.make(from, 0);
        loom.put(bean, 0, list);
        int got = loom.map(0, bean);
        CHECK.same("a bean, a list, three beans of NULL", loom.count(3), 7);
        CHECK.same("a new bean for NULL", loom.get((int) loom.get(got, 0), 0), 4);
        CHECK.same("another one for another NULL", loom.get((int) loom.get(got, 0), 1), 5);
        CHECK.same("for the property", loom.get(got, 1), 6);
        CHECK.same("it has the EMPTY values", loom.get(6, 1), -1);
        CHECK.same("its CONSTANT is not set", loom.get(6, 2), 0);
        CHECK.same("the CONSTANT of a bean of a source", loom.get(got, 2), 5);
        CHECK.same("NULL for map()", loom.map(0, -1), 7);
    }

    private static void twoMethods() {
        BeanLoom loom = new BeanLoom();
        int from = loom.bean();
        int to = loom.bean();
        int mid = loom.bean();
        loom.property(from, 1, from);
        loom.property(to, 1, mid);
        loom.property(mid, 1, to);
        loom.method(from, to);
        loom.method(from, mid);
        loom.build();
        int bean = loom.make(from, 0);
        loom.put(bean, 0, bean);
        CHECK.same("by the one method", loom.map(0, bean), 1);
        CHECK.same("by the other one, of the same source", loom.get(1, 0), 2);
        CHECK.same("and back", loom.get(2, 0), 1);
        CHECK.same("no more", loom.count(3), 3);
    }

    private static void limits() {
        BeanLoom loom = new BeanLoom();
        int from = loom.bean();
        int to = loom.bean();
        loom.property(from, 1, 14);
        loom.property(from, 2, 3);
        loom.property(to, 2, 14);
        loom.property(to, 1, 3);
        loom.method(from, to);
        loom.build();
        int bean = loom.make(from, 0);
        int text = loom.make(14, '9');
        int bad = loom.make(14, 'x');
        loom.put(bean, 0, bad);
        CHECK.unsupported("a text that is no number", () -> loom.map(0, bean));
        CHECK.same("the objects that there were", loom.count(3), 3);
        CHECK.bounds("none of the new ones", () -> loom.about(3, 0));
        CHECK.same("the next one has that number", loom.make(14, 'n'), 3);
        CHECK.text("and just its own characters", loom, 3, "n");
        loom.put(bean, 0, text);
        Looms.fillObjects(loom, 398);
        CHECK.same("up to 400", loom.map(0, bean), 398);
        CHECK.same("400 objects", loom.count(3), 400);
        CHECK.unsupported("none is free", () -> loom.map(0, bean));
        CHECK.same("NULL needs none", loom.map(0, -1), -1);

        BeanLoom one = new BeanLoom();
        one.bean();
        one.bean();
        one.property(15, 1, 3);
        one.property(16, 1, 14);
        one.method(15, 16);
        one.rule(0, 8, 0, 1);
        one.build();
        for (int object = 0; object < 399; object++) {
            one.make(15, 0);
        }
        CHECK.unsupported("one is free, but two are needed", () -> one.map(0, 0));
        CHECK.same("399 objects", one.count(3), 399);
        CHECK.same("a bean of NULL needs one", one.map(0, -1), 399);
        CHECK.unsupported("none is free for NULL", () -> one.map(0, -1));
    }

    private static void longChain() {
        BeanLoom loom = new BeanLoom();
        int from = loom.bean();
        int to = loom.bean();
        loom.property(from, 1, from);
        loom.property(to, 1, to);
        loom.method(from, to);
        loom.build();
        for (int i = 0; i < 200; i++) {
            loom.make(from, 0);
            loom.put(i, 0, i - 1);
        }
        CHECK.same("a chain of 200", loom.map(0, 199), 200);
        CHECK.same("as many new ones", loom.count(3), 400);
        // Not each one of them: a loom stands for 512 calls.
        for (int i = 1; i < 200; i += 2) {
            CHECK.same("in their order", loom.get(200 + i, 0), i == 199 ? -1 : 201 + i);
        }
        CHECK.unsupported("once more is too much", () -> loom.map(0, 0));
        CHECK.same("400 stay", loom.count(3), 400);
    }

    private static void overTheTable() {
        BeanLoom loom = new BeanLoom();
        int from = loom.bean();
        int to = loom.bean();
        loom.property(from, 1, 14);
        loom.property(from, 2, 13);
        loom.property(to, 1, 12);
        loom.property(to, 2, 12);
        loom.property(to, 3, 5);
        loom.function(10, 12, 1, 1);
        loom.function(7, 5, 1, 0);
        loom.method(from, to);
        loom.rule(0, 0, 3, 3);
        loom.build();
        int bean = loom.make(from, 0);
        CHECK.same("NULL: EMPTY", loom.get(loom.map(0, bean), 0), -1);
        CHECK.same("NULL: EMPTY of a PRIMITIVE", loom.get(1, 2), 0);
        loom.put(bean, 0, loom.make(14, '4' | '2' << 8));
        loom.put(bean, 1, loom.make(13, Double.doubleToLongBits(300.9)));
        int got = loom.map(0, bean);
        CHECK.same("the table's row goes before a function over the table", loom.get((int) loom.get(got, 0), 0), 0);
        CHECK.same("a function over the table", loom.get((int) loom.get(got, 1), 0), 1);
        CHECK.same("cast to BYTE on the way", loom.get(got, 2), 0);
        CHECK.same("nothing is made of what is between", loom.count(3), 7);
    }

    private static void namedFunctions() {
        BeanLoom loom = new BeanLoom();
        int from = loom.bean();
        int to = loom.bean();
        loom.property(from, 1, 3);
        loom.property(to, 1, 4);
        loom.property(to, 2, 4);
        loom.property(to, 3, 11);
        loom.function(3, 4, 10, 0);
        loom.function(3, 11, 100, 0);
        loom.method(from, to);
        loom.rule(0, 0, 2, 2);
        loom.rule(0, 0, 3, 2);
        loom.rule(0, 4, 2, 0);
        loom.build();
        int bean = loom.make(from, 0);
        loom.put(bean, 0, 7);
        int got = loom.map(0, bean);
        CHECK.same("NAMED: only where it is told", loom.get(got, 0), 7);
        CHECK.same("BY", loom.get(got, 1), 70);
        CHECK.same("not NAMED: before the table", loom.get((int) loom.get(got, 2), 0), 700);
    }

    /** A map() that fails deep inside leaves nothing to the next one. */
    private static void afterFailing() {
        BeanLoom loom = new BeanLoom();
        int from = loom.bean();
        int to = loom.bean();
        int texts = loom.list(14);
        int boxes = loom.list(10);
        loom.property(from, 1, from);
        loom.property(from, 2, texts);
        loom.property(to, 1, to);
        loom.property(to, 2, boxes);
        loom.method(from, to);
        loom.build();
        int list = loom.make(texts, 0);
        loom.put(list, 0, loom.make(14, '5'));
        loom.put(list, 0, loom.make(14, 'x'));
        loom.put(list, 0, loom.get(list, 0));
        int inner = loom.make(from, 0);
        int outer = loom.make(from, 0);
        loom.put(inner, 1, list);
        loom.put(outer, 0, inner);
        CHECK.unsupported("deep inside", () -> loom.map(0, outer));
        CHECK.same("nothing is left", loom.count(3), 5);
        CHECK.same("NULL still becomes NULL", loom.map(0, -1), -1);
        CHECK.same("nor made now", loom.count(3), 5);
        loom.put(inner, 1, -1);
        CHECK.same("the same beans, mended", loom.map(0, outer), 5);
        CHECK.same("the inner one", loom.get(5, 0), 6);
        CHECK.same("its NULL", loom.get(6, 1), -1);
        CHECK.same("two beans", loom.count(3), 7);
    }

    /** What a build() with a fault has planned counts for nothing. */
    private static void builtTwice() {
        BeanLoom mended = new BeanLoom();
        mended.bean();
        mended.bean();
        mended.property(15, 1, 3);
        mended.property(15, 2, 15);
        mended.property(16, 1, 3);
        mended.property(16, 3, 3);
        mended.property(16, 4, 3);
        mended.function(4, 3, 1, 1);
        mended.method(15, 16);
        mended.rule(0, 0, 3, 2 << 8 | 3);
        CHECK.diagnosis("nothing says 4", mended, 5, 0, 2);
        mended.rule(0, 2, 1, 0);
        CHECK.diagnosis("nothing says 4 still", mended, 5, 0, 2);
        mended.rule(0, 3, 3, 44);
        mended.rule(0, 1, 4, 6);
        CHECK.same("mended", mended.build(), 1);
        int bean = mended.make(15, 0);
        mended.put(bean, 0, 9);
        int got = mended.map(0, bean);
        CHECK.same("IGNORED now", mended.get(got, 0), 0);
        CHECK.same("DEFAULT now", mended.get(got, 1), 45);
        CHECK.same("CONSTANT now", mended.get(got, 2), 7);
        mended.put(bean, 1, bean);
        CHECK.same("the PATH as ever", mended.get(mended.map(0, bean), 1), 9);
    }

    private static void enumsInBeans() {
        BeanLoom loom = new BeanLoom();
        int from = loom.bean();
        int to = loom.bean();
        int left = loom.enumeration(0x3f0902, 3);
        int right = loom.enumeration(0x02090a, 3);
        int lefts = loom.list(left);
        int rights = loom.list(right);
        loom.property(from, 1, left);
        loom.property(from, 2, 14);
        loom.property(from, 3, lefts);
        loom.property(to, 1, right);
        loom.property(to, 2, right);
        loom.property(to, 3, rights);
        loom.property(to, 4, 14);
        loom.method(from, to);
        loom.method(left, right);
        loom.rule(0, 0, 4, 2);
        loom.rule(1, 6, 0, -2);
        loom.build();
        int bean = loom.make(from, 0);
        int list = loom.make(lefts, 0);
        loom.put(list, 0, 1);
        loom.put(list, 0, -1);
        loom.put(list, 0, 0);
        loom.put(bean, 0, 1);
        loom.put(bean, 1, loom.make(14, 'n' | '1' << 8 | '0' << 16));
        loom.put(bean, 2, list);
        int got = loom.map(0, bean);
        CHECK.same("by a method of enums", loom.get(got, 0), 1);
        CHECK.same("from a text", loom.get(got, 1), 0);
        int made = (int) loom.get(got, 2);
        CHECK.same("in a list", loom.get(made, 0), 1);
        CHECK.same("NULL in a list", loom.get(made, 1), -1);
        CHECK.same("the same name, another place", loom.get(made, 2), 2);
        CHECK.text("to a text", loom, loom.get(got, 3), "n9");
        loom.put(bean, 0, 2);
        int before = loom.count(3);
        CHECK.unsupported("a constant that fails", () -> loom.map(0, bean));
        CHECK.unsupported("by map() itself", () -> loom.map(1, 2));
        CHECK.same("the objects that there were", loom.count(3), before);
        loom.put(bean, 0, -1);
        loom.put(bean, 1, -1);
        got = loom.map(0, bean);
        CHECK.same("NULL of an enum", loom.get(got, 0), -1);
        CHECK.same("NULL of a text", loom.get(got, 1), -1);
        CHECK.same("NULL to a text", loom.get(got, 3), -1);
        String[] wrong = {"n02", "n", "2", "n2 ", "N2", "", "n63", "n1", "n3", "n8", "n11", "n20", "n1 ", "n010"};
        for (String word : wrong) {
            long bytes = 0;
            for (int i = 0; i < word.length(); i++) {
                bytes |= (long) word.charAt(i) << 8 * i;
            }
            loom.put(bean, 1, loom.make(14, bytes));
            CHECK.unsupported("no constant has this text: " + word, () -> loom.map(0, bean));
        }
    }
}
