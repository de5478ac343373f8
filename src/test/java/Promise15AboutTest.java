/** Promise 15: about. */
public final class Promise15AboutTest {
    public static void main(String[] args) {
        Check check = new Check();
        BeanLoom loom = new BeanLoom();
        int bean = loom.bean();
        int empty = loom.bean();
        int list = loom.list(14);
        loom.property(bean, 1, 4);
        loom.property(bean, 2, 14);
        loom.make(bean, 0);
        loom.make(empty, 0);
        loom.make(list, 0);
        loom.make(13, 0);
        loom.make(14, 'a' | 'b' << 8);
        int[] types = {bean, empty, list, 13, 14};
        int[] lengths = {2, 0, 0, 1, 2};
        for (int object = 0; object < 5; object++) {
            int o = object;
            check.same("type of " + o, loom.about(o, 0), types[o]);
            check.same("length of " + o, loom.about(o, 1), lengths[o]);
            check.bounds("what 2", () -> loom.about(o, 2));
            check.bounds("what -1", () -> loom.about(o, -1));
        }
        loom.put(2, 0, 4);
        loom.put(2, 0, -1);
        check.same("a list with two values", loom.about(2, 1), 2);
        int[] none = {-1, 5, 400, Integer.MAX_VALUE, Integer.MIN_VALUE};
        for (int object : none) {
            check.bounds("no such object", () -> loom.about(object, 0));
            check.bounds("no such object", () -> loom.about(object, 1));
        }
        check.end();
    }
}
