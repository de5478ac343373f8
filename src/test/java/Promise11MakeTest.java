/** Promise 11: make. */
public final class Promise11MakeTest {
    private static final long[][] RANGES = {{-128, 127}, {-32768, 32767}, {0, 65535}, {Integer.MIN_VALUE, Integer.MAX_VALUE},
        {Long.MIN_VALUE, Long.MAX_VALUE}, {0, 1}};

    public static void main(String[] args) {
        Check check = new Check();
        boxes(check);
        texts(check);
        BeanLoom loom = new BeanLoom();
        int bean = loom.bean();
        for (int type = 0; type < 8; type++) {
            loom.property(bean, type, type == 7 ? 14 : type);
        }
        int list = loom.list(bean);
        int enumeration = loom.enumeration(1, 1);
        check.same("a bean", loom.make(bean, Long.MIN_VALUE), 0);
        for (int at = 0; at < 7; at++) {
            check.same("EMPTY of a PRIMITIVE", loom.get(0, at), 0);
        }
        check.same("EMPTY: NULL", loom.get(0, 7), -1);
        check.same("a list", loom.make(list, 5), 1);
        check.same("without values", loom.about(1, 1), 0);
        for (int type = 0; type < 7; type++) {
            int primitive = type;
            check.argument("a PRIMITIVE has no objects", () -> loom.make(primitive, 0));
        }
        check.argument("an enum has none", () -> loom.make(enumeration, 0));
        check.argument("no type: -1", () -> loom.make(-1, 0));
        check.argument("no type: 18", () -> loom.make(18, 0));
        check.same("nothing was added", loom.count(3), 2);
        for (int number = 2; number < 400; number++) {
            check.same("up to 400", loom.make(number % 2 == 0 ? bean : 14, number), number);
        }
        check.state("an object too many", () -> loom.make(bean, 0));
        check.state("a box too many", () -> loom.make(7, 0));
        check.argument("the argument is told first", () -> loom.make(7, 128));
        check.argument("the type is told first", () -> loom.make(enumeration, 0));
        check.same("400 objects", loom.count(3), 400);

        BeanLoom built = new BeanLoom();
        built.build();
        check.same("built or not", built.make(14, 0), 0);
        check.end();
    }

    private static void boxes(Check check) {
        for (int type = 0; type < 6; type++) {
            BeanLoom loom = new BeanLoom();
            int box = type + 7;
            for (long v : RANGES[type]) {
                int object = loom.make(box, v);
                check.same("a box of " + type, loom.get(object, 0), v);
                check.same("its type", loom.about(object, 0), box);
                check.same("one value", loom.about(object, 1), 1);
            }
            if (type != 4) {
                check.argument("below " + type, () -> loom.make(box, RANGES[box - 7][0] - 1));
                check.argument("above " + type, () -> loom.make(box, RANGES[box - 7][1] + 1));
                check.argument("a long in its lowest bits", () -> loom.make(box, 1L << 32));
            }
        }
        BeanLoom loom = new BeanLoom();
        double[] reals = {0, -0.0, 1.5, Double.MAX_VALUE, Double.MIN_VALUE, Double.POSITIVE_INFINITY,
            Double.NEGATIVE_INFINITY};
        for (double real : reals) {
            long bits = Double.doubleToLongBits(real);
            check.same("a box of DOUBLE", loom.get(loom.make(13, bits), 0), bits);
        }
        check.argument("NaN", () -> loom.make(13, Double.doubleToLongBits(Double.NaN)));
        check.argument("the first NaN", () -> loom.make(13, 0x7ff0000000000001L));
        check.argument("a NaN below 0", () -> loom.make(13, 0xfff0000000000001L));
        check.argument("-1 is NaN", () -> loom.make(13, -1));
        check.same("the last number below 0", loom.make(13, 0xfff0000000000000L), 7);
    }

    private static void texts(Check check) {
        BeanLoom loom = new BeanLoom();
        check.text("empty", loom, loom.make(14, 0), "");
        check.text("one", loom, loom.make(14, 'x'), "x");
        check.text("the lowest first", loom, loom.make(14, 'a' | 'b' << 8 | 'c' << 16), "abc");
        check.text("up to a 0", loom, loom.make(14, 'a' | 'c' << 16), "a");
        check.text("nothing behind a 0", loom, loom.make(14, 'a' << 8), "");
        check.text("eight", loom, loom.make(14, -1), "\u00ff\u00ff\u00ff\u00ff\u00ff\u00ff\u00ff\u00ff");
        check.text("128", loom, loom.make(14, 0x80), "\u0080");
    }
}
