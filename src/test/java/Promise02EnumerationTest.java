/** Promise 2: enumeration. */
public final class Promise02EnumerationTest {
    public static void main(String[] args) {
        Check check = new Check();
        BeanLoom loom = new BeanLoom();
        check.same("one name", loom.enumeration(0, 1), 15);
        check.same("eight names", loom.enumeration(0x3f3e3d3c03020100L, 8), 16);
        check.same("the same again is another type", loom.enumeration(0, 1), 17);
        check.same("what is beyond n is not looked at", loom.enumeration(-256L + 5, 1), 18);
        check.argument("no constant", () -> loom.enumeration(1, 0));
        check.argument("n below 0", () -> loom.enumeration(1, -1));
        check.argument("nine constants", () -> loom.enumeration(0x0807060504030201L, 9));
        check.argument("64 is no name", () -> loom.enumeration(64, 1));
        check.argument("255 is no name", () -> loom.enumeration(-1L << 56 | 0x07060504030201L, 8));
        check.argument("a name twice", () -> loom.enumeration(0x010201, 3));
        check.argument("0 twice", () -> loom.enumeration(1, 3));
        check.same("nothing was added", loom.count(0), 19);

        for (int type = 19; type < 40; type++) {
            check.same("up to 40 types", loom.enumeration(type, 1), type);
        }
        check.state("a type too many", () -> loom.enumeration(1, 1));
        check.argument("the argument is told first", () -> loom.enumeration(1, 0));
        check.same("40 types", loom.count(0), 40);

        BeanLoom built = new BeanLoom();
        built.build();
        check.state("built", () -> built.enumeration(1, 1));
        check.argument("built, and a wrong argument", () -> built.enumeration(64, 1));
        values(check);
        check.end();
    }

    private static void values(Check check) {
        BeanLoom loom = new BeanLoom();
        int three = loom.enumeration(0x070503, 3);
        int bean = loom.bean();
        loom.property(bean, 0, three);
        int object = loom.make(bean, 0);
        check.yes("the last place", loom.put(object, 0, 2));
        check.no("a place beyond", loom.put(object, 0, 3));
        check.no("a name is no value", loom.put(object, 0, 7));
        check.no("-2", loom.put(object, 0, -2));
        check.yes("NULL", loom.put(object, 0, -1));
        check.argument("an enum has no objects", () -> loom.make(three, 0));
    }
}
