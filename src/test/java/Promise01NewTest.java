/** Promise 1: a new object. */
public final class Promise01NewTest {
    public static void main(String[] args) {
        Check check = new Check();
        BeanLoom loom = new BeanLoom();
        check.same("NONE", BeanLoom.NONE, -1);
        check.same("types", loom.count(0), 15);
        check.same("methods", loom.count(1), 0);
        check.same("functions", loom.count(2), 0);
        check.same("objects", loom.count(3), 0);
        check.same("built", loom.count(4), 0);
        check.same("diagnosis(0)", loom.diagnosis(0), 0);
        check.same("diagnosis(1)", loom.diagnosis(1), -1);
        check.same("diagnosis(2)", loom.diagnosis(2), -1);
        check.bounds("get(0, 0)", () -> loom.get(0, 0));
        check.bounds("about(0, 0)", () -> loom.about(0, 0));
        check.no("put(0, 0, 0)", loom.put(0, 0, 0));
        check.argument("map(0, -1)", () -> loom.map(0, -1));

        loom.bean();
        BeanLoom other = new BeanLoom();
        check.same("types of another one", other.count(0), 15);
        check.end();
    }
}
