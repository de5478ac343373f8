/** Promise 3: bean. */
public final class Promise03BeanTest {
    public static void main(String[] args) {
        Check check = new Check();
        BeanLoom loom = new BeanLoom();
        check.same("the first", loom.bean(), 15);
        check.same("it has no properties", loom.about(loom.make(15, 0), 1), 0);
        check.bounds("nor a value", () -> loom.get(0, 0));
        check.same("a bean beside objects", loom.bean(), 16);
        loom.list(16);
        check.same("after a list", loom.bean(), 18);
        for (int type = 19; type < 40; type++) {
            check.same("up to 40 types", loom.bean(), type);
        }
        check.state("a type too many", loom::bean);
        check.same("40 types", loom.count(0), 40);

        BeanLoom built = new BeanLoom();
        built.build();
        check.state("built", built::bean);
        check.same("nothing was added", built.count(0), 15);
        check.end();
    }
}
