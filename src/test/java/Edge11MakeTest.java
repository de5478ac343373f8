/** Promise 11, and what "Terms" says of objects and of the ranges of values, sentence by sentence. */
public final class Edge11MakeTest {
    private static final Check CHECK = new Check();
    private static final long[][] RANGES = {{-128, 127}, {-32768, 32767}, {0, 65535}, {Integer.MIN_VALUE, Integer.MAX_VALUE},
        {Long.MIN_VALUE, Long.MAX_VALUE}, {0, 1}};

    public static void main(String[] args) {
        whatHasNoObjects();
        boxesOfWholeNumbers();
        boxesOfDoubles();
        bytesOfATextUpToA0();
        vIsNotLookedAt();
        fourHundred();
        CHECK.end();
    }

    /** "IllegalArgumentException if the type has no objects". */
    private static void whatHasNoObjects() {
        BeanLoom loom = new BeanLoom();
        loom.bean();
        loom.enumeration(1, 1);
        loom.list(14);
        int[] none = {Integer.MIN_VALUE, -1, 0, 1, 2, 3, 4, 5, 6, 16, 18, 19, 39, 40, Integer.MAX_VALUE};
        for (int type : none) {
            CHECK.argument("type " + type, loom, () -> loom.make(type, 0));
        }
        int made = 0;
        for (int type : new int[] {7, 8, 9, 10, 11, 12, 13, 14, 15, 17}) {
            CHECK.same("its number", loom.make(type, 0), made);
            CHECK.same("its type", loom.about(made, 0), type);
            made++;
        }
        BeanLoom last = new BeanLoom();
        Looms.fillTypes(last, 39);
        CHECK.same("type 39", last.list(14), 39);
        CHECK.argument("type 40", last, () -> last.make(40, 0));
        CHECK.same("an object of the last type", last.make(39, 0), 0);
    }

    /** "Of a PRIMITIVE: whole numbers in its range"; "or v is no value of the box's PRIMITIVE". */
    private static void boxesOfWholeNumbers() {
        for (int kind = 0; kind < 6; kind++) {
            BeanLoom loom = new BeanLoom();
            int box = kind + 7;
            long least = RANGES[kind][0];
            long most = RANGES[kind][1];
            for (long v : new long[] {least, least + 1, 0, 1, most - 1, most}) {
                int object = loom.make(box, v);
                CHECK.same("a box with " + v, loom.get(object, 0), v);
            }
            if (kind == 4) {
                CHECK.same("-1 is a LONG", loom.get(loom.make(box, -1), 0), -1);
                continue;
            }
            long[] beyond = {least - 1, most + 1, least - 256, most + 65536, 1L << 32, (1L << 32) + 1, -(1L << 32), 1L << 63,
                Long.MAX_VALUE};
            BeanLoom none = new BeanLoom();
            none.make(14, 'x');
            for (long v : beyond) {
                CHECK.argument(v + " in a box of " + kind, none, () -> none.make(box, v));
            }
        }
        BeanLoom loom = new BeanLoom();
        CHECK.argument("CHAR -1", loom, () -> loom.make(9, -1));
        CHECK.argument("BOOLEAN -1", loom, () -> loom.make(12, -1));
        CHECK.argument("BOOLEAN 2", loom, () -> loom.make(12, 2));
    }

    /** "of DOUBLE the bits of one that is no NaN". */
    private static void boxesOfDoubles() {
        long[] good = {0, 1, Long.MIN_VALUE, Long.MIN_VALUE + 1, 0x7fefffffffffffffL, 0x7ff0000000000000L,
            0xffefffffffffffffL, 0xfff0000000000000L, 0x3ff0000000000000L};
        long[] none = {0x7ff0000000000001L, 0x7ff8000000000000L, 0x7ff8000000000001L, Long.MAX_VALUE, 0xfff0000000000001L,
            0xfff8000000000000L, -1, -2};
        BeanLoom loom = new BeanLoom();
        for (long v : good) {
            CHECK.same("bits " + v, loom.get(loom.make(13, v), 0), v);
        }
        BeanLoom empty = new BeanLoom();
        for (long v : none) {
            CHECK.argument("NaN " + v, empty, () -> empty.make(13, v));
        }
    }

    /** "a TEXT of the bytes of v, the lowest first, up to a 0". */
    private static void bytesOfATextUpToA0() {
        for (int length = 0; length <= 8; length++) {
            for (int sign : new int[] {1, 127, 128, 255}) {
                BeanLoom loom = new BeanLoom();
                long v = 0;
                for (int i = 0; i < length; i++) {
                    v |= (long) (i == length - 1 ? sign : 'a' + i) << 8 * i;
                }
                for (int behind = length + 1; behind < 8; behind++) {
                    v |= 0xeeL << 8 * behind;
                }
                int text = loom.make(14, v);
                CHECK.same("its length", loom.about(text, 1), length);
                for (int i = 0; i < length; i++) {
                    CHECK.same("the lowest first", loom.get(text, i), i == length - 1 ? sign : 'a' + i);
                }
                CHECK.bounds("no more", loom, () -> loom.get(text, loom.about(text, 1)));
            }
        }
    }

    /** A bean and "an empty list": whatever v is. */
    private static void vIsNotLookedAt() {
        BeanLoom loom = new BeanLoom();
        loom.bean();
        loom.property(15, 1, 0);
        loom.property(15, 2, 7);
        loom.list(7);
        for (long v : new long[] {-1, 1, Long.MAX_VALUE, Long.MIN_VALUE}) {
            int bean = loom.make(15, v);
            CHECK.same("EMPTY", loom.get(bean, 0), 0);
            CHECK.same("NULL", loom.get(bean, 1), -1);
            CHECK.same("none", loom.about(loom.make(16, v), 1), 0);
        }
    }

    /** "IllegalStateException if there are 400." */
    private static void fourHundred() {
        int[] types = {7, 13, 14, 15, 16};
        for (int type : types) {
            BeanLoom loom = new BeanLoom();
            loom.bean();
            loom.list(14);
            loom.enumeration(1, 1);
            Looms.fillObjects(loom, 399);
            CHECK.same("the 400th", loom.make(type, 0), 399);
            CHECK.state("the 401st", () -> loom.make(type, 0));
            CHECK.state("once more", () -> loom.make(type, 0));
            CHECK.argument("the type is told first", () -> loom.make(17, 0));
            CHECK.argument("no type", () -> loom.make(18, 0));
            CHECK.argument("the value is told first", () -> loom.make(7, 128));
            CHECK.same("400 objects", loom.count(3), 400);
            CHECK.same("the last one stays", loom.about(399, 0), type);
            CHECK.bounds("none beyond", () -> loom.about(400, 0));
        }
    }
}
