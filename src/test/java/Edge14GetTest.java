/** Promise 14, sentence by sentence. */
public final class Edge14GetTest {
    private static final Check CHECK = new Check();

    public static void main(String[] args) {
        propertiesAndValues();
        characters();
        boxes();
        noneSuch();
        CHECK.end();
    }

    /** "Value at a place of an object: of a bean's property, a list". */
    private static void propertiesAndValues() {
        for (int size = 0; size <= 16; size++) {
            BeanLoom loom = new BeanLoom();
            loom.bean();
            loom.list(14);
            for (int name = 0; name < size && name < 8; name++) {
                loom.property(15, name, 4);
            }
            int bean = loom.make(15, 0);
            int list = loom.make(16, 0);
            int text = loom.make(14, 0);
            int properties = Math.min(size, 8);
            for (int at = 0; at < properties; at++) {
                loom.put(bean, at, Long.MAX_VALUE - at);
            }
            for (int at = 0; at < size; at++) {
                loom.put(list, 0, at % 2 == 0 ? text : -1);
            }
            for (int at = 0; at < properties; at++) {
                CHECK.same("property " + at, loom.get(bean, at), Long.MAX_VALUE - at);
            }
            for (int at = 0; at < size; at++) {
                CHECK.same("value " + at, loom.get(list, at), at % 2 == 0 ? text : -1);
            }
            for (int beyond : new int[] {size, size + 1, 24, -1, Integer.MAX_VALUE, Integer.MIN_VALUE}) {
                CHECK.bounds("no value " + beyond, () -> loom.get(list, beyond));
            }
            CHECK.bounds("no property " + properties, loom, () -> loom.get(bean, properties));
            CHECK.bounds("no property -1", loom, () -> loom.get(bean, -1));
        }
    }

    /** "character of a TEXT": of at most 20 that a LONG has, 0 .. 65535. */
    private static void characters() {
        BeanLoom loom = Looms.pair(4, 14);
        loom.build();
        int source = loom.make(15, 0);
        for (long number : new long[] {0, -1, Long.MAX_VALUE, Long.MIN_VALUE}) {
            String due = Long.toString(number);
            int text = Looms.digits(loom, 0, source, number);
            for (int at = 0; at < due.length(); at++) {
                CHECK.same("character " + at, loom.get(text, at), due.charAt(at));
            }
            CHECK.bounds("none beyond", () -> loom.get(text, due.length()));
            CHECK.bounds("none before", () -> loom.get(text, -1));
        }
        BeanLoom chars = Looms.pair(2, 14);
        chars.build();
        chars.make(15, 0);
        for (int sign : new int[] {0, 255, 256, 65535}) {
            CHECK.same("a character", chars.get(Looms.digits(chars, 0, 0, sign), 0), sign);
        }
        for (int length = 0; length <= 8; length++) {
            BeanLoom made = new BeanLoom();
            int end = length;
            made.make(14, length == 0 ? 0 : -1L >>> 64 - 8 * length);
            for (int at = 0; at < length; at++) {
                CHECK.same("a byte", made.get(0, at), 255);
            }
            CHECK.bounds("none beyond", made, () -> made.get(0, end));
        }
    }

    /** "of a box (place 0) what it has". */
    private static void boxes() {
        long[] values = {-128, -32768, 65535, Integer.MIN_VALUE, Long.MIN_VALUE, 1, 0xfff0000000000000L};
        for (int kind = 0; kind < 7; kind++) {
            BeanLoom loom = new BeanLoom();
            loom.make(kind + 7, values[kind]);
            CHECK.same("what it has", loom.get(0, 0), values[kind]);
            CHECK.bounds("no place 1", loom, () -> loom.get(0, 1));
            CHECK.bounds("no place -1", loom, () -> loom.get(0, -1));
        }
    }

    /** "IndexOutOfBoundsException if there is none such." */
    private static void noneSuch() {
        BeanLoom loom = new BeanLoom();
        loom.make(7, 1);
        loom.make(14, 'x');
        for (int object : new int[] {-1, 2, 400, Integer.MIN_VALUE, Integer.MAX_VALUE}) {
            for (int at = -1; at < 2; at++) {
                int place = at;
                CHECK.bounds("object " + object, () -> loom.get(object, place));
            }
        }
        BeanLoom full = new BeanLoom();
        Looms.fillObjects(full, 399);
        full.make(7, 99);
        CHECK.same("object 399", full.get(399, 0), 99);
        CHECK.bounds("object 400", () -> full.get(400, 0));
    }
}
