/** Promise 5, and what "Terms" says of lists, sentence by sentence. */
public final class Edge05ListTest {
    private static final Check CHECK = new Check();

    public static void main(String[] args) {
        ofWhat();
        theSameOne();
        fortyTypes();
        refusedWhenBuilt();
        listsOfLists();
        CHECK.end();
    }

    /** "IllegalArgumentException if there is no such type, or it is PRIMITIVE". */
    private static void ofWhat() {
        BeanLoom loom = new BeanLoom();
        int[] wrong = {Integer.MIN_VALUE, -1, 0, 1, 2, 3, 4, 5, 6, 15, 16, 40, Integer.MAX_VALUE};
        for (int of : wrong) {
            CHECK.argument("of " + of, loom, () -> loom.list(of));
        }
        for (int of = 7; of < 15; of++) {
            CHECK.same("of " + of, loom.list(of), of + 8);
        }
        CHECK.argument("of itself", loom, () -> loom.list(23));
        CHECK.same("of the last type", loom.list(22), 23);
        CHECK.same("an empty list is made", loom.about(loom.make(23, 99), 1), 0);
    }

    /** "The list of a type: its type (the same one, if there is one)." */
    private static void theSameOne() {
        BeanLoom loom = new BeanLoom();
        int bean = loom.bean();
        int other = loom.bean();
        int list = loom.list(bean);
        CHECK.same("the same one", loom.list(bean), list);
        CHECK.same("of another bean: another one", loom.list(other), list + 1);
        CHECK.same("the list of the list", loom.list(list), list + 2);
        CHECK.same("still the same one", loom.list(bean), list);
        CHECK.same("the same list of the list", loom.list(list), list + 2);
        CHECK.same("no type was added", loom.count(0), list + 3);
        loom.make(14, 0);
        CHECK.same("a list beside objects", loom.list(7), list + 3);
    }

    /** "IllegalStateException if there is none yet, and .. there are 40 types". */
    private static void fortyTypes() {
        BeanLoom loom = new BeanLoom();
        int bean = loom.bean();
        int list = loom.list(bean);
        Looms.fillTypes(loom, 39);
        CHECK.same("the 40th", loom.list(14), 39);
        CHECK.state("the 41st", loom, () -> loom.list(13));
        CHECK.state("it is not there now", loom, () -> loom.list(13));
        CHECK.same("one that there is", loom.list(bean), list);
        CHECK.same("the 40th, that there is", loom.list(14), 39);
        CHECK.argument("no such type", loom, () -> loom.list(40));
        CHECK.argument("a PRIMITIVE", loom, () -> loom.list(6));
        CHECK.same("40 types", loom.count(0), 40);
    }

    /** "IllegalStateException if there is none yet, and it is built". */
    private static void refusedWhenBuilt() {
        BeanLoom loom = new BeanLoom();
        int list = loom.list(14);
        loom.build();
        CHECK.state("none yet", loom, () -> loom.list(13));
        CHECK.state("none yet, of the list", loom, () -> loom.list(list));
        CHECK.same("one that there is", loom.list(14), list);
        CHECK.argument("no such type", loom, () -> loom.list(16));
        CHECK.argument("a PRIMITIVE", loom, () -> loom.list(0));
        BeanLoom faulty = Looms.pair(14, 6);
        CHECK.argument("a diagnosis", faulty::build);
        CHECK.same("not built", faulty.list(14), 17);
    }

    /** A list of a list .. 25 deep: "40 types at most in all". */
    private static void listsOfLists() {
        BeanLoom loom = new BeanLoom();
        for (int type = 15; type < 40; type++) {
            CHECK.same("of " + (type - 1), loom.list(type - 1), type);
        }
        CHECK.state("no room for one more", loom, () -> loom.list(39));
        for (int type = 15; type < 40; type++) {
            CHECK.same("the same of " + (type - 1), loom.list(type - 1), type);
        }
        int value = loom.make(14, 'x');
        for (int type = 15; type < 40; type++) {
            int list = loom.make(type, 0);
            CHECK.yes("a list in a list", loom.put(list, 0, value));
            CHECK.no("not in itself", loom.put(list, 0, list));
            CHECK.same("one value", loom.about(list, 1), 1);
            value = list;
        }
    }
}
