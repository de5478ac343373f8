/** Promise 4: property. */
public final class Promise04PropertyTest {
    public static void main(String[] args) {
        Check check = new Check();
        BeanLoom loom = new BeanLoom();
        int bean = loom.bean();
        int enumeration = loom.enumeration(1, 1);
        int list = loom.list(14);
        check.same("the first", loom.property(bean, 0, 0), 0);
        check.same("the last name", loom.property(bean, 63, 14), 1);
        check.same("of its own type", loom.property(bean, 5, bean), 2);
        check.same("of an enum", loom.property(bean, 6, enumeration), 3);
        check.same("of a list", loom.property(bean, 7, list), 4);
        check.argument("no such bean: INT", () -> loom.property(3, 8, 3));
        check.argument("no such bean: an enum", () -> loom.property(enumeration, 8, 3));
        check.argument("no such bean: a list", () -> loom.property(list, 8, 3));
        check.argument("no such bean: 18", () -> loom.property(18, 8, 3));
        check.argument("no such bean: -1", () -> loom.property(-1, 8, 3));
        check.argument("no such name: -1", () -> loom.property(bean, -1, 3));
        check.argument("no such name: 64", () -> loom.property(bean, 64, 3));
        check.argument("no such type: 18", () -> loom.property(bean, 8, 18));
        check.argument("no such type: -1", () -> loom.property(bean, 8, -1));
        check.argument("the name is taken", () -> loom.property(bean, 5, 3));
        for (int name = 10; name < 13; name++) {
            check.same("up to 8", loom.property(bean, name, 6), name - 5);
        }
        check.state("a ninth", () -> loom.property(bean, 13, 3));
        check.argument("a ninth of a name that is taken", () -> loom.property(bean, 12, 3));
        check.same("its values", loom.about(loom.make(bean, 0), 1), 8);

        int other = loom.bean();
        check.state("there are objects", () -> loom.property(other, 1, 3));
        check.argument("objects, and a wrong name", () -> loom.property(other, 64, 3));

        BeanLoom built = new BeanLoom();
        built.bean();
        built.build();
        check.state("built", () -> built.property(15, 1, 3));
        check.argument("built, and a wrong type", () -> built.property(15, 1, 16));

        BeanLoom boxed = new BeanLoom();
        boxed.bean();
        boxed.make(14, 0);
        check.state("any object is one", () -> boxed.property(15, 1, 3));
        check.end();
    }
}
