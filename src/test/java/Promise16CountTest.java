/** Promise 16: count. */
public final class Promise16CountTest {
    public static void main(String[] args) {
        Check check = new Check();
        BeanLoom loom = new BeanLoom();
        due(check, loom, 15, 0, 0, 0, 0);
        loom.bean();
        loom.enumeration(1, 1);
        loom.list(14);
        loom.list(14);
        due(check, loom, 18, 0, 0, 0, 0);
        loom.property(15, 1, 3);
        loom.method(15, 15);
        loom.method(15, 15);
        loom.function(3, 3, 1, 1);
        loom.rule(0, 8, 0, 0);
        due(check, loom, 18, 2, 1, 0, 0);
        loom.make(15, 0);
        loom.make(14, 0);
        loom.make(7, 0);
        due(check, loom, 18, 2, 1, 3, 0);
        loom.build();
        due(check, loom, 18, 2, 1, 3, 1);
        loom.map(0, 0);
        due(check, loom, 18, 2, 1, 4, 1);
        check.end();
    }

    private static void due(Check check, BeanLoom loom, int... counts) {
        for (int what = 0; what < counts.length; what++) {
            check.same("count(" + what + ")", loom.count(what), counts[what]);
        }
        int[] others = {-1, 5, Integer.MAX_VALUE, Integer.MIN_VALUE};
        for (int what : others) {
            check.same("count(" + what + ")", loom.count(what), -1);
        }
    }
}
