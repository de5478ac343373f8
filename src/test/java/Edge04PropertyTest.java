/** Promise 4, and what "Terms" says of properties, sentence by sentence. */
public final class Edge04PropertyTest {
    private static final Check CHECK = new Check();

    public static void main(String[] args) {
        noSuchBean();
        noSuchName();
        noSuchType();
        differentNames();
        eightAtMost();
        thereAreObjects();
        refusedWhenBuilt();
        eachTypeIsEmpty();
        CHECK.end();
    }

    /** Bean 15, enum 16, list 17. */
    private static BeanLoom loom() {
        BeanLoom loom = new BeanLoom();
        loom.bean();
        loom.enumeration(1, 1);
        loom.list(14);
        return loom;
    }

    /** "IllegalArgumentException if there is no such bean". */
    private static void noSuchBean() {
        for (int type = -2; type < 45; type++) {
            int bean = type;
            BeanLoom each = loom();
            if (bean != 15) {
                CHECK.argument(bean + " is no bean", each, () -> each.property(bean, 0, 3));
                CHECK.same("nothing was told: the first place", each.property(15, 0, 3), 0);
            }
        }
        BeanLoom loom = loom();
        CHECK.argument("the least", loom, () -> loom.property(Integer.MIN_VALUE, 0, 3));
        CHECK.argument("the most", loom, () -> loom.property(Integer.MAX_VALUE, 0, 3));
        CHECK.same("nothing was told: the first place", loom.property(15, 0, 3), 0);
        Looms.fillTypes(loom, 40);
        CHECK.same("the last bean", loom.property(39, 0, 3), 0);
        CHECK.argument("40", loom, () -> loom.property(40, 0, 3));
    }

    /** "NAMES are 0 .. 63"; "IllegalArgumentException if there is no such .. name". */
    private static void noSuchName() {
        BeanLoom loom = loom();
        int[] none = {-1, -64, 64, 65, 255, 256, Integer.MIN_VALUE, Integer.MAX_VALUE};
        for (int name : none) {
            CHECK.argument("no name: " + name, loom, () -> loom.property(15, name, 3));
        }
        int[] names = {0, 1, 62, 63};
        for (int place = 0; place < 4; place++) {
            CHECK.same("a name: " + names[place], loom.property(15, names[place], 3), place);
        }
        CHECK.same("four properties", loom.about(loom.make(15, 0), 1), 4);
    }

    /** "IllegalArgumentException if there is no such .. type". */
    private static void noSuchType() {
        BeanLoom loom = loom();
        int[] none = {-1, 18, 39, 40, Integer.MIN_VALUE, Integer.MAX_VALUE};
        for (int type : none) {
            CHECK.argument("no type: " + type, loom, () -> loom.property(15, 5, type));
        }
        CHECK.same("the first type", loom.property(15, 5, 0), 0);
        CHECK.same("the last type", loom.property(15, 6, 17), 1);
        Looms.fillTypes(loom, 40);
        CHECK.argument("no type: 40", loom, () -> loom.property(15, 7, 40));
        CHECK.same("type 39", loom.property(15, 7, 39), 2);
        for (int from = 0; from < 18; from += 8) {
            BeanLoom each = loom();
            for (int type = from; type < from + 8 && type < 18; type++) {
                CHECK.same("of type " + type, each.property(15, type, type), type - from);
            }
        }
    }

    /** "or it has one of that name": the type does not matter, and another bean's name does not either. */
    private static void differentNames() {
        BeanLoom loom = loom();
        loom.bean();
        CHECK.same("a name", loom.property(15, 63, 3), 0);
        CHECK.argument("again", loom, () -> loom.property(15, 63, 3));
        CHECK.argument("again, of another type", loom, () -> loom.property(15, 63, 14));
        CHECK.same("of another bean", loom.property(18, 63, 3), 0);
        CHECK.same("another name", loom.property(15, 0, 3), 1);
        CHECK.argument("the second again", loom, () -> loom.property(15, 0, 3));
        CHECK.same("the next place", loom.property(15, 1, 3), 2);
    }

    /** "at most 8"; "IllegalStateException if .. it has 8"; "Of several exceptions the one told first is thrown." */
    private static void eightAtMost() {
        BeanLoom loom = loom();
        loom.bean();
        for (int place = 0; place < 8; place++) {
            CHECK.same("its place, from 0", loom.property(15, 60 - place, 3), place);
        }
        CHECK.state("a ninth", loom, () -> loom.property(15, 1, 3));
        CHECK.state("a ninth again: its name is not taken", loom, () -> loom.property(15, 1, 3));
        CHECK.argument("a ninth of no name", loom, () -> loom.property(15, 64, 3));
        CHECK.argument("a ninth of no type", loom, () -> loom.property(15, 1, 19));
        for (int name = 53; name < 61; name++) {
            int taken = name;
            CHECK.argument("a ninth of the name " + name, loom, () -> loom.property(15, taken, 3));
        }
        CHECK.same("another bean has room", loom.property(18, 1, 3), 0);
        CHECK.same("eight values", loom.about(loom.make(15, 0), 1), 8);
        CHECK.bounds("no ninth value", loom, () -> loom.get(0, 8));
    }

    /** "IllegalStateException if .. there are objects", of whatever type. */
    private static void thereAreObjects() {
        int[] types = {7, 13, 14, 15, 17};
        for (int type : types) {
            BeanLoom loom = loom();
            CHECK.same("before", loom.property(15, 0, 3), 0);
            CHECK.argument("no object was made", loom, () -> loom.make(16, 0));
            CHECK.same("still before", loom.property(15, 1, 3), 1);
            loom.make(type, 0);
            CHECK.state("an object of " + type, loom, () -> loom.property(15, 2, 3));
            CHECK.argument("the name is told first", loom, () -> loom.property(15, 1, 3));
            CHECK.argument("the type is told first", loom, () -> loom.property(15, 2, 18));
            CHECK.argument("the bean is told first", loom, () -> loom.property(16, 2, 3));
            CHECK.same("two properties", loom.about(loom.make(15, 0), 1), 2);
        }
    }

    /** "IllegalStateException if it is built". */
    private static void refusedWhenBuilt() {
        BeanLoom loom = loom();
        CHECK.same("before", loom.property(15, 0, 3), 0);
        loom.build();
        CHECK.state("built", loom, () -> loom.property(15, 1, 3));
        CHECK.argument("built, no bean", loom, () -> loom.property(18, 1, 3));
        CHECK.argument("built, no name", loom, () -> loom.property(15, -1, 3));
        CHECK.argument("built, no type", loom, () -> loom.property(15, 1, -1));
        CHECK.argument("built, a name that is taken", loom, () -> loom.property(15, 0, 3));
        CHECK.same("one property", loom.about(loom.make(15, 0), 1), 1);
        BeanLoom faulty = Looms.pair(14, 6);
        CHECK.argument("a diagnosis", faulty::build);
        CHECK.same("not built", faulty.property(15, 2, 3), 1);
    }

    /** "The EMPTY value of a type is 0 for a PRIMITIVE, else NULL. A bean that is made has these". */
    private static void eachTypeIsEmpty() {
        for (int from = 0; from < 18; from += 6) {
            BeanLoom loom = loom();
            for (int type = from; type < from + 6; type++) {
                loom.property(15, type, type);
            }
            loom.method(15, 15);
            loom.rule(0, 8, 0, 1);
            loom.build();
            int made = loom.make(15, 0);
            int mapped = loom.map(0, -1);
            for (int type = from; type < from + 6; type++) {
                CHECK.same("made: EMPTY of " + type, loom.get(made, type - from), type < 7 ? 0 : -1);
                CHECK.same("mapped: EMPTY of " + type, loom.get(mapped, type - from), type < 7 ? 0 : -1);
            }
        }
    }
}
