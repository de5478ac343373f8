/** What many tests begin with: looms, their state as a text, and numbers for texts and paths. */
final class Looms {
    private Looms() {
    }

    /** All that the face tells of a state: a refused call must leave it as it was. */
    static String state(BeanLoom loom) {
        StringBuilder told = new StringBuilder();
        for (int what = 0; what < 5; what++) {
            told.append(loom.count(what)).append(' ');
        }
        for (int what = 0; what < 3; what++) {
            told.append(loom.diagnosis(what)).append(' ');
        }
        for (int object = 0; object < loom.count(3); object++) {
            told.append('\n').append(loom.about(object, 0)).append(':');
            int length = loom.about(object, 1);
            for (int at = 0; at < length; at++) {
                told.append(' ').append(loom.get(object, at));
            }
        }
        return told.toString();
    }

    static BeanLoom built() {
        BeanLoom loom = new BeanLoom();
        loom.build();
        return loom;
    }

    /** A property (name 1) of bean 15 to a property (name 1) of bean 16, by method 0; not built. */
    static BeanLoom pair(int from, int to) {
        BeanLoom loom = new BeanLoom();
        loom.bean();
        loom.bean();
        loom.property(15, 1, from);
        loom.property(16, 1, to);
        loom.method(15, 16);
        return loom;
    }

    /** Bean 15 without properties, bean 16 with one (name 1) that gets a CONSTANT, by method 0; built. */
    static BeanLoom constant(int to, long what) {
        BeanLoom loom = new BeanLoom();
        loom.bean();
        loom.bean();
        loom.property(16, 1, to);
        loom.method(15, 16);
        loom.rule(0, 1, 1, what);
        loom.build();
        return loom;
    }

    static void fillTypes(BeanLoom loom, int upTo) {
        while (loom.count(0) < upTo) {
            loom.bean();
        }
    }

    static void fillObjects(BeanLoom loom, int upTo) {
        for (int object = loom.count(3); object < upTo; object++) {
            loom.make(14, 0);
        }
    }

    /** The characters of a word as bytes, the lowest first. */
    static long bytes(String word) {
        long bytes = 0;
        for (int i = 0; i < word.length(); i++) {
            bytes |= (long) word.charAt(i) << 8 * i;
        }
        return bytes;
    }

    /** Names as bytes, the lowest first. */
    static long names(int... names) {
        long bytes = 0;
        for (int i = 0; i < names.length; i++) {
            bytes |= (long) names[i] << 8 * i;
        }
        return bytes;
    }

    /** A PATH: each name + 1 as a byte, the lowest first. */
    static long path(int... names) {
        long bytes = 0;
        for (int i = 0; i < names.length; i++) {
            bytes |= names[i] + 1L << 8 * i;
        }
        return bytes;
    }

    /** A text that has the digits of a number, made by a loom's own method from a LONG, for make() gives 8 signs alone. */
    static int digits(BeanLoom loom, int method, int longBean, long number) {
        loom.put(longBean, 0, number);
        return (int) loom.get(loom.map(method, longBean), 0);
    }
}
