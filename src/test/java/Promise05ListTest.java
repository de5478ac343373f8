/** Promise 5: list. */
public final class Promise05ListTest {
    public static void main(String[] args) {
        Check check = new Check();
        BeanLoom loom = new BeanLoom();
        for (int type = 0; type < 7; type++) {
            int primitive = type;
            check.argument("of a primitive", () -> loom.list(primitive));
        }
        check.same("of a box", loom.list(7), 15);
        check.same("of the last box", loom.list(13), 16);
        check.same("of TEXT", loom.list(14), 17);
        check.same("of a list", loom.list(15), 18);
        check.same("the same one", loom.list(7), 15);
        check.same("the same list of lists", loom.list(15), 18);
        int bean = loom.bean();
        int enumeration = loom.enumeration(1, 1);
        check.same("of a bean", loom.list(bean), 21);
        check.same("of an enum", loom.list(enumeration), 22);
        check.argument("no such type: 23", () -> loom.list(23));
        check.argument("no such type: -1", () -> loom.list(-1));
        check.same("nothing was added", loom.count(0), 23);
        int list = loom.make(15, 0);
        check.same("a list that is made has no values", loom.about(list, 1), 0);
        while (loom.count(0) < 40) {
            loom.bean();
        }
        check.state("a type too many", () -> loom.list(39));
        check.same("the same one, though there are 40", loom.list(bean), 21);
        check.argument("the argument is told first", () -> loom.list(0));

        BeanLoom built = new BeanLoom();
        built.list(14);
        built.build();
        check.same("the same one, though it is built", built.list(14), 15);
        check.state("built", () -> built.list(7));
        check.argument("built, and a wrong type", () -> built.list(16));
        check.end();
    }
}
