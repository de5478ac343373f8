/** Promise 15, sentence by sentence. */
public final class Edge15AboutTest {
    private static final Check CHECK = new Check();

    public static void main(String[] args) {
        typesAndSizes();
        noSuchObjectOrWhat();
        CHECK.end();
    }

    /** "what 0 its type, 1 how many values or characters it has (a box 1)". */
    private static void typesAndSizes() {
        for (int size = 0; size <= 8; size++) {
            BeanLoom loom = new BeanLoom();
            loom.bean();
            loom.list(14);
            for (int name = 0; name < size; name++) {
                loom.property(15, name, name % 7);
            }
            loom.make(15, 0);
            loom.make(16, 0);
            loom.make(14, size == 0 ? 0 : -1L >>> 64 - 8 * size);
            CHECK.same("a bean", loom.about(0, 0), 15);
            CHECK.same("its values", loom.about(0, 1), size);
            CHECK.same("a list", loom.about(1, 0), 16);
            CHECK.same("none yet", loom.about(1, 1), 0);
            CHECK.same("a text", loom.about(2, 0), 14);
            CHECK.same("its characters", loom.about(2, 1), size);
            for (int values = 1; values <= 17; values++) {
                loom.put(1, 0, 2);
                CHECK.same("its values, 16 at most", loom.about(1, 1), Math.min(values, 16));
            }
        }
        for (int box = 7; box < 14; box++) {
            BeanLoom loom = new BeanLoom();
            loom.make(box, 0);
            CHECK.same("a box", loom.about(0, 0), box);
            CHECK.same("a box 1", loom.about(0, 1), 1);
        }
        BeanLoom loom = Looms.pair(4, 14);
        loom.build();
        loom.make(15, 0);
        CHECK.same("20 characters", loom.about(Looms.digits(loom, 0, 0, Long.MIN_VALUE), 1), 20);
        CHECK.same("19 characters", loom.about(Looms.digits(loom, 0, 0, Long.MAX_VALUE), 1), 19);
        CHECK.same("1 character", loom.about(Looms.digits(loom, 0, 0, 0), 1), 1);
        CHECK.same("a mapped bean", loom.about(1, 0), 16);
    }

    /** "IndexOutOfBoundsException if there is no such object or what." */
    private static void noSuchObjectOrWhat() {
        BeanLoom loom = new BeanLoom();
        int[] others = {-1, 2, 3, Integer.MIN_VALUE, Integer.MAX_VALUE};
        for (int what = 0; what < 2; what++) {
            int asked = what;
            CHECK.bounds("none is made", loom, () -> loom.about(0, asked));
        }
        loom.make(14, 'x');
        for (int what : others) {
            CHECK.bounds("what " + what, loom, () -> loom.about(0, what));
        }
        for (int object : new int[] {-1, 1, 399, 400, Integer.MIN_VALUE, Integer.MAX_VALUE}) {
            CHECK.bounds("type of " + object, loom, () -> loom.about(object, 0));
            CHECK.bounds("size of " + object, loom, () -> loom.about(object, 1));
        }
        BeanLoom full = new BeanLoom();
        Looms.fillObjects(full, 400);
        CHECK.same("object 399", full.about(399, 0), 14);
        CHECK.bounds("object 400", () -> full.about(400, 0));
    }
}
