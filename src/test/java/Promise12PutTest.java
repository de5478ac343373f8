/** Promise 12: put. */
public final class Promise12PutTest {
    private static final Check CHECK = new Check();

    public static void main(String[] args) {
        BeanLoom loom = new BeanLoom();
        int bean = loom.bean();
        int other = loom.bean();
        int enumeration = loom.enumeration(0x0705, 2);
        int list = loom.list(bean);
        int boxes = loom.list(7);
        int enums = loom.list(enumeration);
        int[] types = {0, 2, 5, 6, bean, enumeration, list, 9};
        for (int name = 0; name < 8; name++) {
            loom.property(bean, name, types[name]);
        }
        int a = loom.make(bean, 0);
        int b = loom.make(other, 0);
        int many = loom.make(list, 0);
        int box = loom.make(9, 500);
        int text = loom.make(14, 'x');
        goes(loom, a, 0, 127, -128, -1);
        stays(loom, a, 0, 128, -129, 1L << 32);
        goes(loom, a, 1, 0, 65535);
        stays(loom, a, 1, -1, 65536);
        goes(loom, a, 2, 1, 0);
        stays(loom, a, 2, -1, 2);
        goes(loom, a, 3, 0, Long.MIN_VALUE, 0x7ff0000000000000L, 0xfff0000000000000L);
        stays(loom, a, 3, -1, 0x7ff0000000000001L, 0x7ff8000000000000L);
        goes(loom, a, 4, a, -1);
        stays(loom, a, 4, b, many, box, -2, 99, 1L << 32);
        goes(loom, a, 5, 0, 1, -1);
        stays(loom, a, 5, 2, 5, -2, 1L << 32);
        goes(loom, a, 6, many, -1);
        stays(loom, a, 6, a);
        goes(loom, a, 7, box, -1);
        stays(loom, a, 7, text, 500);
        CHECK.no("a place beyond", loom.put(a, 8, 0));
        CHECK.no("a place below", loom.put(a, -1, 0));
        CHECK.no("a bean without places", loom.put(b, 0, 0));
        CHECK.no("no such object: 5", loom.put(5, 0, 0));
        CHECK.no("no such object: -1", loom.put(-1, 0, 0));
        CHECK.no("a box", loom.put(box, 0, 1));
        CHECK.same("keeps its value", loom.get(box, 0), 500);
        CHECK.no("a text", loom.put(text, 0, 'y'));
        CHECK.text("keeps its characters", loom, text, "x");
        lists(loom, many, a, b);
        int byteBoxes = loom.make(boxes, 0);
        CHECK.yes("NULL in a list of boxes", loom.put(byteBoxes, 0, -1));
        CHECK.no("another box", loom.put(byteBoxes, 0, box));
        int places = loom.make(enums, 0);
        CHECK.yes("an enum's place", loom.put(places, 0, 1));
        CHECK.no("no place", loom.put(places, 0, 2));
        loom.build();
        CHECK.yes("built or not", loom.put(a, 0, 5));
        CHECK.end();
    }

    private static void goes(BeanLoom loom, int object, int at, long... values) {
        for (long v : values) {
            CHECK.yes("put(" + object + ", " + at + ", " + v + ")", loom.put(object, at, v));
            CHECK.same("and it is there", loom.get(object, at), v);
        }
    }

    private static void stays(BeanLoom loom, int object, int at, long... values) {
        long before = loom.get(object, at);
        for (long v : values) {
            CHECK.no("put(" + object + ", " + at + ", " + v + ")", loom.put(object, at, v));
            CHECK.same("and nothing changes", loom.get(object, at), before);
        }
    }

    private static void lists(BeanLoom loom, int list, int a, int b) {
        CHECK.no("a bean of another type", loom.put(list, 0, b));
        CHECK.no("a list in itself", loom.put(list, 0, list));
        for (int i = 0; i < 16; i++) {
            CHECK.yes("at is not looked at", loom.put(list, i % 3 == 0 ? -7 : 1000, i % 2 == 0 ? a : -1));
            CHECK.same("one more", loom.about(list, 1), i + 1);
            CHECK.same("at the end", loom.get(list, i), i % 2 == 0 ? a : -1);
        }
        CHECK.no("a seventeenth", loom.put(list, 0, a));
        CHECK.same("16 values", loom.about(list, 1), 16);
    }
}
