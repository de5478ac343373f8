/** Promise 9: build. */
public final class Promise09BuildTest {
    public static void main(String[] args) {
        Check check = new Check();
        BeanLoom empty = new BeanLoom();
        check.same("no methods", empty.build(), 0);
        check.same("it is built", empty.count(4), 1);
        check.state("built already", empty::build);
        check.same("still built", empty.count(4), 1);

        BeanLoom full = new BeanLoom();
        full.bean();
        for (int number = 0; number < 16; number++) {
            full.method(15, 15);
        }
        check.same("16 methods", full.build(), 16);

        BeanLoom loom = new BeanLoom();
        loom.bean();
        loom.bean();
        loom.property(15, 1, 3);
        loom.property(16, 2, 3);
        loom.method(15, 16);
        check.argument("a diagnosis", loom::build);
        check.same("not built", loom.count(4), 0);
        check.argument("again", loom::build);
        check.same("a property can still come", loom.property(15, 2, 10), 1);
        check.same("and mends it", loom.build(), 1);
        check.same("built", loom.count(4), 1);
        check.state("built already", loom::build);
        check.same("no diagnosis", loom.diagnosis(0), 0);
        check.same("it maps", loom.get(loom.map(0, loom.make(15, 0)), 0), 0);
        check.end();
    }
}
