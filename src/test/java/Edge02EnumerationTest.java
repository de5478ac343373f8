/** Promise 2, and what "Terms" says of enums, sentence by sentence. */
public final class Edge02EnumerationTest {
    private static final Check CHECK = new Check();

    public static void main(String[] args) {
        howMany();
        namesAre0To63();
        differentNames();
        theLowestFirst();
        fortyTypes();
        placesAreValues();
        refusedWhenBuilt();
        CHECK.end();
    }

    /** "IllegalArgumentException if n is not 1 .. 8". */
    private static void howMany() {
        long names = Looms.names(7, 6, 5, 4, 3, 2, 1, 0);
        BeanLoom loom = new BeanLoom();
        int[] wrong = {0, -1, -8, 9, 10, 64, 256 + 1, Integer.MIN_VALUE, Integer.MAX_VALUE};
        for (int n : wrong) {
            CHECK.argument("n is " + n, loom, () -> loom.enumeration(names, n));
        }
        for (int n = 1; n <= 8; n++) {
            CHECK.same("n is " + n, loom.enumeration(names, n), 14 + n);
            CHECK.same("one type more", loom.count(0), 15 + n);
        }
    }

    /** "NAMES are 0 .. 63"; "IllegalArgumentException if .. one is no name": at each place, and at none beyond n. */
    private static void namesAre0To63() {
        int[] none = {64, 65, 127, 128, 192, 255};
        for (int place = 0; place < 8; place++) {
            long others = Looms.names(1, 2, 3, 4, 5, 6, 7, 8) & ~(255L << 8 * place);
            BeanLoom loom = new BeanLoom();
            for (int name : none) {
                long names = others | (long) name << 8 * place;
                CHECK.argument(name + " at " + place, loom, () -> loom.enumeration(names, 8));
                int before = place;
                if (before > 0) {
                    CHECK.yes(name + " beyond n", loom.enumeration(names, before) > 14);
                }
            }
            int type = loom.count(0);
            CHECK.same("63 at " + place, loom.enumeration(others | 63L << 8 * place, 8), type);
            CHECK.same("62 at " + place, loom.enumeration(others | 62L << 8 * place, 8), type + 1);
            CHECK.same("0 at " + place, loom.enumeration(others, 8), type + 2);
        }
    }

    /** "1 to 8 different names"; "IllegalArgumentException if .. one .. is there twice". */
    private static void differentNames() {
        for (int later = 1; later < 8; later++) {
            for (int earlier = 0; earlier < later; earlier++) {
                BeanLoom loom = new BeanLoom();
                long names = Looms.names(10, 11, 12, 13, 14, 15, 16, 17) & ~(255L << 8 * later);
                long twice = names | (10L + earlier) << 8 * later;
                int n = later + 1;
                CHECK.argument("at " + earlier + " and " + later, loom, () -> loom.enumeration(twice, 8));
                CHECK.argument("the last one is the second", loom, () -> loom.enumeration(twice, n));
                CHECK.same("the second is beyond n", loom.enumeration(twice, later), 15);
            }
        }
        BeanLoom loom = new BeanLoom();
        CHECK.argument("0 twice", loom, () -> loom.enumeration(0, 2));
        CHECK.argument("63 twice", loom, () -> loom.enumeration(Looms.names(63, 0, 63), 3));
        CHECK.same("0 once", loom.enumeration(0, 1), 15);
        CHECK.same("the same names as another enum", loom.enumeration(0, 1), 16);
    }

    /** "their names as bytes, the lowest first": told by the texts that the constants become. */
    private static void theLowestFirst() {
        int[] names = {63, 0, 9, 10, 1, 62, 19, 20};
        BeanLoom loom = new BeanLoom();
        loom.bean();
        loom.bean();
        loom.enumeration(Looms.names(names), 8);
        loom.property(15, 1, 17);
        loom.property(16, 1, 14);
        loom.method(15, 16);
        loom.build();
        loom.make(15, 0);
        for (int place = 0; place < 8; place++) {
            loom.put(0, 0, place);
            CHECK.text("the constant at " + place, loom, loom.get(loom.map(0, 0), 0), "n" + names[place]);
        }
    }

    /** "40 types at most in all"; "IllegalStateException if .. there are 40 types"; "Of several exceptions ..". */
    private static void fortyTypes() {
        BeanLoom loom = new BeanLoom();
        loom.list(14);
        Looms.fillTypes(loom, 38);
        CHECK.same("the 39th", loom.enumeration(1, 1), 38);
        CHECK.same("the 40th", loom.enumeration(1, 1), 39);
        CHECK.state("the 41st", loom, () -> loom.enumeration(1, 1));
        CHECK.argument("the argument is told first: n", loom, () -> loom.enumeration(1, 9));
        CHECK.argument("a name", loom, () -> loom.enumeration(64, 1));
        CHECK.argument("twice", loom, () -> loom.enumeration(0x0101, 2));
        CHECK.same("the 40th is an enum", loom.method(39, 38), 0);
    }

    /** "Of an enum: the place of a constant, or -1." */
    private static void placesAreValues() {
        for (int n = 1; n <= 8; n++) {
            BeanLoom loom = new BeanLoom();
            loom.enumeration(Looms.names(40, 41, 42, 43, 44, 45, 46, 47), n);
            loom.bean();
            loom.property(16, 0, 15);
            loom.make(16, 0);
            CHECK.same("EMPTY: NULL", loom.get(0, 0), -1);
            CHECK.yes("the last constant", loom.put(0, 0, n - 1));
            CHECK.notPut("one beyond", loom, 0, 0, n);
            CHECK.notPut("a name", loom, 0, 0, 40);
            CHECK.notPut("-2", loom, 0, 0, -2);
            CHECK.notPut("a long in its lowest bits", loom, 0, 0, 1L << 32);
            CHECK.yes("the first constant", loom.put(0, 0, 0));
            CHECK.yes("NULL", loom.put(0, 0, -1));
        }
    }

    /** "IllegalStateException if it is built". */
    private static void refusedWhenBuilt() {
        BeanLoom loom = Looms.built();
        CHECK.state("built", loom, () -> loom.enumeration(1, 1));
        CHECK.argument("built, and n is 0", loom, () -> loom.enumeration(1, 0));
        CHECK.argument("built, and no name", loom, () -> loom.enumeration(255, 1));
        BeanLoom faulty = Looms.pair(14, 6);
        CHECK.argument("a diagnosis", faulty::build);
        CHECK.same("a build() that was refused refuses nothing", faulty.enumeration(1, 1), 17);
    }
}
