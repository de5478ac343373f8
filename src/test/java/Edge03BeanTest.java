/** Promise 3, sentence by sentence. */
public final class Edge03BeanTest {
    private static final Check CHECK = new Check();

    public static void main(String[] args) {
        BeanLoom loom = new BeanLoom();
        loom.enumeration(1, 1);
        loom.list(14);
        CHECK.same("in the order in which they come", loom.bean(), 17);
        CHECK.same("without properties", loom.about(loom.make(17, 0), 1), 0);
        CHECK.bounds("no value", loom, () -> loom.get(0, 0));
        CHECK.notPut("no place", loom, 0, 0, 0);
        Looms.fillTypes(loom, 39);
        CHECK.same("the 40th", loom.bean(), 39);
        CHECK.state("the 41st", loom, loom::bean);
        CHECK.state("once more", loom, loom::bean);
        CHECK.same("the 40th is a bean", loom.method(39, 17), 0);

        BeanLoom others = new BeanLoom();
        for (int type = 15; type < 40; type++) {
            CHECK.same("lists and enums count too", type % 2 == 0 ? others.list(type - 1) : others.enumeration(1, 1), type);
        }
        CHECK.state("the 41st behind lists", others, others::bean);

        BeanLoom built = Looms.built();
        CHECK.state("built", built, built::bean);
        BeanLoom faulty = Looms.pair(14, 6);
        CHECK.argument("a diagnosis", faulty::build);
        CHECK.same("not built", faulty.bean(), 17);
        CHECK.end();
    }
}
