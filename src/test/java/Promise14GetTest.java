/** Promise 14: get. */
public final class Promise14GetTest {
    public static void main(String[] args) {
        Check check = new Check();
        BeanLoom loom = new BeanLoom();
        int bean = loom.bean();
        int list = loom.list(bean);
        loom.property(bean, 1, 4);
        loom.property(bean, 2, list);
        int a = loom.make(bean, 0);
        int many = loom.make(list, 0);
        int box = loom.make(11, Long.MIN_VALUE);
        int text = loom.make(14, 'a' | 0xff00);
        loom.put(a, 0, Long.MAX_VALUE);
        loom.put(a, 1, many);
        loom.put(many, 0, a);
        loom.put(many, 0, -1);
        check.same("a property", loom.get(a, 0), Long.MAX_VALUE);
        check.same("the last property", loom.get(a, 1), many);
        check.same("a value of a list", loom.get(many, 0), a);
        check.same("NULL in a list", loom.get(many, 1), -1);
        check.same("what a box has", loom.get(box, 0), Long.MIN_VALUE);
        check.same("a character", loom.get(text, 0), 'a');
        check.same("the last character", loom.get(text, 1), 255);
        int[][] none = {{a, 2}, {a, -1}, {many, 2}, {many, -1}, {box, 1}, {box, -1}, {text, 2}, {text, -1}, {-1, 0},
            {4, 0}, {Integer.MAX_VALUE, 0}, {Integer.MIN_VALUE, 0}, {a, Integer.MAX_VALUE}, {a, Integer.MIN_VALUE}};
        for (int[] pair : none) {
            check.bounds("get(" + pair[0] + ", " + pair[1] + ")", () -> loom.get(pair[0], pair[1]));
        }
        int empty = loom.make(14, 0);
        check.bounds("an empty text", () -> loom.get(empty, 0));
        int emptyList = loom.make(list, 0);
        check.bounds("an empty list", () -> loom.get(emptyList, 0));
        check.end();
    }
}
