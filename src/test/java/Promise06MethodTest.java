/** Promise 6: method. */
public final class Promise06MethodTest {
    public static void main(String[] args) {
        Check check = new Check();
        BeanLoom loom = new BeanLoom();
        int bean = loom.bean();
        int other = loom.bean();
        int enumeration = loom.enumeration(1, 1);
        int list = loom.list(bean);
        check.same("from bean to bean", loom.method(bean, other), 0);
        check.same("one may be the other", loom.method(bean, bean), 1);
        check.same("from enum to enum", loom.method(enumeration, enumeration), 2);
        check.same("once more the same", loom.method(bean, other), 3);
        check.argument("from bean to enum", () -> loom.method(bean, enumeration));
        check.argument("from enum to bean", () -> loom.method(enumeration, bean));
        check.argument("from list to list", () -> loom.method(list, list));
        check.argument("from bean to list", () -> loom.method(bean, list));
        check.argument("from TEXT to TEXT", () -> loom.method(14, 14));
        check.argument("from INT to bean", () -> loom.method(3, bean));
        check.argument("from what is no type", () -> loom.method(19, bean));
        check.argument("to what is no type", () -> loom.method(bean, -1));
        check.same("nothing was added", loom.count(1), 4);
        for (int number = 4; number < 16; number++) {
            check.same("up to 16", loom.method(other, bean), number);
        }
        check.state("a method too many", () -> loom.method(other, bean));
        check.argument("the argument is told first", () -> loom.method(other, list));

        BeanLoom built = new BeanLoom();
        built.bean();
        built.build();
        check.state("built", () -> built.method(15, 15));
        check.argument("built, and a wrong type", () -> built.method(15, 16));
        check.end();
    }
}
