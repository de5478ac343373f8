/** Promise 12, and what "Terms" says of values, sentence by sentence. */
public final class Edge12PutTest {
    private static final Check CHECK = new Check();
    private static final long[][] RANGES = {{-128, 127}, {-32768, 32767}, {0, 65535}, {Integer.MIN_VALUE, Integer.MAX_VALUE},
        {Long.MIN_VALUE, Long.MAX_VALUE}, {0, 1}};

    public static void main(String[] args) {
        noSuchObject();
        noSuchPlace();
        rangesOfPrimitives();
        doubles();
        objectsOfJustThisType();
        sixteenInAList();
        valuesOfLists();
        notOfBoxesAndTexts();
        builtOrNot();
        CHECK.end();
    }

    /** "false if there is no such object". */
    private static void noSuchObject() {
        BeanLoom loom = new BeanLoom();
        loom.bean();
        loom.property(15, 0, 3);
        loom.list(15);
        loom.make(15, 0);
        loom.make(16, 0);
        for (int object : new int[] {-1, 2, 399, 400, Integer.MIN_VALUE, Integer.MAX_VALUE}) {
            CHECK.notPut("object " + object, loom, object, 0, 0);
            CHECK.notPut("NULL to object " + object, loom, object, 0, -1);
        }
        CHECK.yes("object 0", loom.put(0, 0, 5));
        CHECK.yes("object 1", loom.put(1, 0, 0));
    }

    /** "false if there is no such .. place". */
    private static void noSuchPlace() {
        for (int properties = 0; properties <= 8; properties++) {
            BeanLoom loom = new BeanLoom();
            loom.bean();
            for (int name = 0; name < properties; name++) {
                loom.property(15, name, 4);
            }
            loom.make(15, 0);
            loom.make(15, 0);
            for (int at : new int[] {-1, properties, properties + 1, 24, Integer.MIN_VALUE, Integer.MAX_VALUE}) {
                CHECK.notPut("place " + at + " of " + properties, loom, 0, at, 1);
            }
            for (int at = 0; at < properties; at++) {
                CHECK.yes("place " + at, loom.put(0, at, at + 10));
                CHECK.same("it is there", loom.get(0, at), at + 10);
                CHECK.same("not in another bean", loom.get(1, at), 0);
            }
        }
    }

    /** "Of a PRIMITIVE: whole numbers in its range (CHAR 0 .. 65535, BOOLEAN 0 and 1)". */
    private static void rangesOfPrimitives() {
        for (int kind = 0; kind < 6; kind++) {
            BeanLoom loom = new BeanLoom();
            loom.bean();
            loom.property(15, 0, kind);
            loom.make(15, 0);
            long least = RANGES[kind][0];
            long most = RANGES[kind][1];
            for (long v : new long[] {least, least + 1, 0, 1, most - 1, most}) {
                CHECK.yes(v + " is one of " + kind, loom.put(0, 0, v));
                CHECK.same("it is there", loom.get(0, 0), v);
            }
            for (long v : new long[] {least - 1, most + 1, 1L << 32, (1L << 32) + 1, -(1L << 40), 1L << 62}) {
                if (kind != 4) {
                    CHECK.notPut(v + " is none of " + kind, loom, 0, 0, v);
                }
            }
        }
    }

    /** "of DOUBLE the bits of one that is no NaN". */
    private static void doubles() {
        BeanLoom loom = new BeanLoom();
        loom.bean();
        loom.property(15, 0, 6);
        loom.make(15, 0);
        for (long v : new long[] {1, Long.MIN_VALUE, 0x7ff0000000000000L, 0xfff0000000000000L, 0x7fefffffffffffffL, 0}) {
            CHECK.yes("bits " + v, loom.put(0, 0, v));
            CHECK.same("they are there", loom.get(0, 0), v);
        }
        for (long v : new long[] {0x7ff0000000000001L, Long.MAX_VALUE, 0xfff0000000000001L, -1, 0x7ff8000000000000L}) {
            CHECK.notPut("NaN " + v, loom, 0, 0, v);
        }
    }

    /** "Of all others: the number of an OBJECT of just this type, or -1. -1 is NULL, but for PRIMITIVES." */
    private static void objectsOfJustThisType() {
        int[] types = {7, 8, 9, 10, 11, 12, 13, 14, 15, 17, 18};
        for (int type : types) {
            BeanLoom loom = new BeanLoom();
            loom.bean();
            loom.bean();
            loom.list(14);
            loom.list(15);
            loom.property(16, 0, type);
            int bean = loom.make(16, 0);
            int own = -1;
            for (int each : types) {
                int object = loom.make(each, 0);
                own = each == type ? object : own;
            }
            for (int object = 0; object < loom.count(3); object++) {
                if (object == own) {
                    CHECK.yes("an object of its type", loom.put(bean, 0, object));
                    CHECK.same("it is there", loom.get(bean, 0), own);
                } else {
                    CHECK.no("an object of another type", loom.put(bean, 0, object));
                }
            }
            CHECK.notPut("none yet", loom, bean, 0, loom.count(3));
            for (long v : new long[] {-2, (1L << 32) + own, Long.MAX_VALUE, Long.MIN_VALUE, 400}) {
                CHECK.no("no object: " + v, loom.put(bean, 0, v));
                CHECK.same("nothing changes", loom.get(bean, 0), own);
            }
            CHECK.yes("NULL", loom.put(bean, 0, -1));
            CHECK.same("it is there", loom.get(bean, 0), -1);
        }
        BeanLoom last = new BeanLoom();
        last.bean();
        last.property(15, 0, 15);
        for (int object = 0; object < 400; object++) {
            last.make(15, 0);
        }
        CHECK.yes("object 399", last.put(399, 0, 399));
        CHECK.no("object 400", last.put(399, 0, 400));
        CHECK.no("to object 400", last.put(400, 0, 0));
        CHECK.same("it is there", last.get(399, 0), 399);
    }

    /** "a list of at most 16 values"; "false if .. the list has 16"; "(at is not looked at)". */
    private static void sixteenInAList() {
        BeanLoom loom = new BeanLoom();
        loom.list(14);
        loom.make(15, 0);
        loom.make(15, 0);
        loom.make(14, 'x');
        int[] places = {0, -1, 16, 17, Integer.MIN_VALUE, Integer.MAX_VALUE, 3, 2};
        for (int i = 0; i < 16; i++) {
            CHECK.yes("value " + i, loom.put(0, places[i % 8], i % 3 == 0 ? -1 : 2));
            CHECK.same("one more", loom.about(0, 1), i + 1);
            CHECK.same("at the end", loom.get(0, i), i % 3 == 0 ? -1 : 2);
        }
        CHECK.notPut("a seventeenth", loom, 0, 0, 2);
        CHECK.notPut("a seventeenth at 16", loom, 0, 16, 2);
        CHECK.notPut("a seventeenth at -1", loom, 0, -1, 2);
        CHECK.notPut("NULL is a seventeenth too", loom, 0, 0, -1);
        CHECK.same("the first one stays", loom.get(0, 0), -1);
        CHECK.yes("another list has room", loom.put(1, 0, 2));
    }

    /** "the value is none of its type": of the type that the list is of. */
    private static void valuesOfLists() {
        BeanLoom loom = new BeanLoom();
        loom.enumeration(1, 1);
        loom.bean();
        for (int of : new int[] {15, 16, 7, 14}) {
            loom.list(of);
        }
        loom.list(20);
        for (int type : new int[] {17, 18, 19, 20, 21, 16, 7, 14}) {
            loom.make(type, 0);
        }
        int[] own = {0, 5, 6, 7, 3};
        for (int list = 0; list < 5; list++) {
            for (int v = 0; v < 8; v++) {
                if (v == own[list]) {
                    CHECK.yes("its type", loom.put(list, 0, v));
                } else {
                    CHECK.no("value " + v + " in list " + list, loom.put(list, 0, v));
                }
            }
            CHECK.yes("NULL", loom.put(list, 0, -1));
            CHECK.no("-2", loom.put(list, 0, -2));
            CHECK.no("8", loom.put(list, 0, 8));
            CHECK.no("a long in its lowest bits", loom.put(list, 0, (1L << 32) + own[list]));
            CHECK.same("two values", loom.about(list, 1), 2);
            CHECK.same("the first", loom.get(list, 0), own[list]);
            CHECK.same("the second", loom.get(list, 1), -1);
        }
    }

    /** A box and a TEXT have no place that gets a value. */
    private static void notOfBoxesAndTexts() {
        for (int type = 7; type < 15; type++) {
            BeanLoom loom = new BeanLoom();
            loom.make(type, 1);
            for (int at = -1; at < 2; at++) {
                CHECK.notPut("type " + type + " at " + at, loom, 0, at, 0);
                CHECK.notPut("NULL, type " + type + " at " + at, loom, 0, at, -1);
            }
        }
        BeanLoom loom = new BeanLoom();
        loom.make(14, 0);
        CHECK.notPut("an empty text", loom, 0, 0, 'x');
    }

    private static void builtOrNot() {
        BeanLoom loom = Looms.pair(3, 3);
        loom.make(15, 0);
        CHECK.yes("before", loom.put(0, 0, 1));
        loom.build();
        CHECK.yes("behind", loom.put(0, 0, 2));
        int got = loom.map(0, 0);
        CHECK.yes("a mapped one too", loom.put(got, 0, 3));
        CHECK.same("just that one", loom.get(0, 0), 2);
        CHECK.same("it is there", loom.get(got, 0), 3);
        for (int size = 14; size <= 16; size++) {
            mappedList(size);
        }
    }

    /** A list that map() has made has room up to 16 too, and is none with its source. */
    private static void mappedList(int size) {
        BeanLoom loom = new BeanLoom();
        loom.list(10);
        loom.list(14);
        loom.bean();
        loom.bean();
        loom.property(17, 1, 15);
        loom.property(18, 1, 16);
        loom.method(17, 18);
        loom.build();
        loom.make(17, 0);
        loom.make(15, 0);
        loom.make(10, 5);
        loom.put(0, 0, 1);
        for (int i = 0; i < size; i++) {
            loom.put(1, 0, 2);
        }
        int made = (int) loom.get(loom.map(0, 0), 0);
        for (int i = size; i < 16; i++) {
            CHECK.yes("room for value " + i, loom.put(made, 0, -1));
        }
        CHECK.no("a seventeenth", loom.put(made, 0, -1));
        CHECK.same("16 values", loom.about(made, 1), 16);
        CHECK.same("the source has its own", loom.about(1, 1), size);
        CHECK.no("a value of the source's type", loom.put(made, 0, 2));
    }
}
