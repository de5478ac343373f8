/** Promise 13, and what "Terms" says of PATHS that break, of DEFAULT, CONSTANT, IGNORED and BY, sentence by sentence. */
public final class Edge13PathTest {
    private static final Check CHECK = new Check();

    public static void main(String[] args) {
        oneButTheLastIsNull();
        nothingOrWhatNullBecomes();
        defaults();
        defaultsOfEachType();
        noNullOfAPrimitive();
        byThatFunctionAlone();
        ignoredAndConstant();
        withoutAPath();
        CHECK.end();
    }

    /** Beans 15 (0 bean 15, 1 of a type) and 16 (0 .. 3 of another one, by paths of no, one, two and three names). */
    private static BeanLoom chain(int from, int to) {
        BeanLoom loom = new BeanLoom();
        loom.bean();
        loom.bean();
        loom.property(15, 0, 15);
        loom.property(15, 1, from);
        loom.property(16, 1, to);
        loom.property(16, 2, to);
        loom.property(16, 3, to);
        loom.method(15, 16);
        loom.rule(0, 0, 2, Looms.path(0, 1));
        loom.rule(0, 0, 3, Looms.path(0, 0, 1));
        return loom;
    }

    /** Beans 0, 1, 2, of which each has the one before. */
    private static void beans(BeanLoom loom) {
        for (int bean = 0; bean < 3; bean++) {
            loom.make(15, 0);
            loom.put(bean, 0, bean - 1);
        }
    }

    /** "If one but the last is NULL ..: .. nothing": the EMPTY value stays. */
    private static void oneButTheLastIsNull() {
        for (int type : new int[] {0, 3, 5, 6, 10, 14}) {
            BeanLoom loom = chain(type, type);
            loom.build();
            beans(loom);
            for (int bean = 0; bean < 3; bean++) {
                loom.put(bean, 1, type < 7 ? 1 : loom.make(type, 1));
            }
            for (int bean = 0; bean < 3; bean++) {
                int target = loom.map(0, bean);
                for (int at = 0; at < 3; at++) {
                    long empty = type < 7 ? 0 : -1;
                    long due = at > bean ? empty : loom.get(bean - at, 1);
                    CHECK.same("bean " + bean + " at " + at, loom.get(target, at), due);
                }
            }
        }
    }

    /** "if one but the last is NULL, nothing; else what the value (also NULL) becomes": with rule 8 a new bean. */
    private static void nothingOrWhatNullBecomes() {
        BeanLoom loom = chain(15, 16);
        loom.rule(0, 8, 0, 1);
        loom.build();
        beans(loom);
        int target = loom.map(0, 0);
        CHECK.same("the last is NULL: a new bean", loom.get(target, 0), target + 1);
        CHECK.same("one of two is NULL: nothing", loom.get(target, 1), -1);
        CHECK.same("one of three is NULL: nothing", loom.get(target, 2), -1);
        CHECK.same("two beans", loom.count(3), target + 2);
        target = loom.map(0, 1);
        CHECK.same("the last of two is NULL: a new bean", loom.get(target, 1), target + 2);
        CHECK.same("the second of three is NULL: nothing", loom.get(target, 2), -1);
        target = loom.map(0, 2);
        CHECK.same("the last of three is NULL: a new bean", loom.get(target, 2), target + 3);
        CHECK.same("of its type", loom.about(target + 3, 0), 16);
    }

    /** "DEFAULT, if there is one: as a CONSTANT", where one but the last is NULL, or the last has the NULL of its type. */
    private static void defaults() {
        BeanLoom loom = chain(10, 4);
        for (int name = 1; name < 4; name++) {
            loom.rule(0, 3, name, name * 1111);
        }
        loom.build();
        beans(loom);
        int box = loom.make(10, 5);
        for (int with = 0; with < 8; with++) {
            for (int bean = 0; bean < 3; bean++) {
                loom.put(bean, 1, (with >> bean & 1) == 1 ? box : -1);
            }
            for (int bean = 0; bean < 3; bean++) {
                int target = loom.map(0, bean);
                for (int at = 0; at < 3; at++) {
                    boolean there = at <= bean && (with >> bean - at & 1) == 1;
                    CHECK.same("DEFAULT or value", loom.get(target, at), there ? 5 : (at + 1) * 1111);
                }
            }
        }
        loom.put(0, 1, loom.make(10, 0));
        CHECK.same("a box of 0 is not NULL", loom.get(loom.map(0, 0), 0), 0);
        loom.put(0, 1, loom.make(10, -1));
        CHECK.same("a box of -1 is not NULL", loom.get(loom.map(0, 0), 0), -1);
    }

    /** "the NULL of its type": of boxes, TEXT, enums, beans and lists; the DEFAULT is no step further than a LONG's way. */
    private static void defaultsOfEachType() {
        for (int type = 7; type < 18; type++) {
            for (int to : new int[] {14, 11, 4}) {
                boolean way = type == 14 || type == 15 && to == 14 || type < 14 && type != 13 && (type != 12 || to == 14)
                        || type == 13 && to != 14;
                if (!way) {
                    continue;
                }
                BeanLoom loom = new BeanLoom();
                loom.enumeration(Looms.names(3, 4), 2);
                loom.bean();
                loom.bean();
                loom.property(16, 1, type);
                loom.property(17, 1, to);
                loom.method(16, 17);
                loom.rule(0, 3, 1, -7);
                loom.build();
                int source = loom.make(16, 0);
                int target = loom.map(0, source);
                long got = loom.get(target, 0);
                if (to == 14) {
                    CHECK.text("DEFAULT of " + type, loom, got, "-7");
                } else {
                    CHECK.same("DEFAULT of " + type, to < 7 ? got : loom.get((int) got, 0), -7);
                }
                CHECK.same("one object for it", loom.count(3), to < 7 ? 2 : 3);
                loom.put(source, 0, type == 15 ? 0 : loom.make(type, type == 14 ? '0' : 0));
                got = loom.get(loom.map(0, source), 0);
                CHECK.no("else the value", to < 7 && got == -7 || to == 11 && loom.get((int) got, 0) == -7
                        || to == 14 && loom.about((int) got, 1) == 2 && type != 15);
            }
        }
        BeanLoom loom = new BeanLoom();
        loom.enumeration(Looms.names(3, 4), 2);
        loom.bean();
        loom.bean();
        loom.property(16, 1, 15);
        loom.property(17, 1, 14);
        loom.method(16, 17);
        loom.rule(0, 3, 1, 99);
        loom.build();
        int source = loom.make(16, 0);
        CHECK.text("an enum's NULL", loom, loom.get(loom.map(0, source), 0), "99");
        loom.put(source, 0, 0);
        CHECK.text("an enum's first constant", loom, loom.get(loom.map(0, source), 0), "n3");
    }

    /** "-1 is NULL, but for PRIMITIVES": the last one of a PRIMITIVE has no NULL. */
    private static void noNullOfAPrimitive() {
        for (int type : new int[] {0, 1, 3, 4}) {
            BeanLoom loom = Looms.pair(type, 11);
            loom.rule(0, 3, 1, 77);
            loom.build();
            int source = loom.make(15, 0);
            for (int v = -1; v < 1; v++) {
                loom.put(source, 0, v);
                long box = loom.get(loom.map(0, source), 0);
                CHECK.same("not the DEFAULT", loom.get((int) box, 0), v);
            }
        }
    }

    /** "with BY by that function alone (NULL: the EMPTY value)"; a DEFAULT is "as a CONSTANT", not by it. */
    private static void byThatFunctionAlone() {
        for (int to : new int[] {4, 11}) {
            BeanLoom loom = chain(10, to);
            loom.function(10, to, 10, 3);
            loom.function(10, to, 100, 3);
            for (int name = 1; name < 4; name++) {
                loom.rule(0, 4, name, 0);
            }
            loom.rule(0, 3, 2, 55);
            loom.build();
            beans(loom);
            int box = loom.make(10, 7);
            int target = loom.map(0, 1);
            CHECK.same("NULL: the EMPTY value", loom.get(target, 0), to < 7 ? 0 : -1);
            long got = loom.get(target, 1);
            CHECK.same("DEFAULT: not by the function", to < 7 ? got : loom.get((int) got, 0), 55);
            CHECK.same("a path that breaks: nothing", loom.get(target, 2), to < 7 ? 0 : -1);
            for (int bean = 0; bean < 3; bean++) {
                loom.put(bean, 1, box);
            }
            target = loom.map(0, 2);
            for (int at = 0; at < 3; at++) {
                got = loom.get(target, at);
                CHECK.same("by the function", to < 7 ? got : loom.get((int) got, 0), 73);
            }
        }
    }

    /** "IGNORED: nothing. CONSTANT: what the LONG becomes": whatever the source has. */
    private static void ignoredAndConstant() {
        BeanLoom loom = new BeanLoom();
        loom.bean();
        loom.bean();
        int[] types = {3, 10, 14, 6, 12, 4, 11, 0};
        for (int name = 0; name < 8; name++) {
            loom.property(15, name, types[name]);
            loom.property(16, name, types[name]);
        }
        loom.function(4, 12, 1, 0);
        loom.method(15, 16);
        loom.method(15, 16);
        for (int name = 0; name < 8; name++) {
            loom.rule(0, 2, name, 5);
            loom.rule(1, 1, name, 301);
            loom.rule(1, 3, name, 5);
        }
        loom.build();
        int source = loom.make(15, 0);
        for (int at = 0; at < 8; at++) {
            loom.put(source, at, types[at] < 7 ? 1 : loom.make(types[at], 1));
        }
        int before = loom.count(3);
        int ignored = loom.map(0, source);
        CHECK.same("nothing is made for IGNORED ones", loom.count(3), before + 1);
        int constant = loom.map(1, source);
        for (int at = 0; at < 8; at++) {
            CHECK.same("IGNORED: EMPTY", loom.get(ignored, at), types[at] < 7 ? 0 : -1);
            long got = loom.get(constant, at);
            if (types[at] == 14) {
                CHECK.text("CONSTANT", loom, got, "301");
            } else {
                long due = at == 3 ? Double.doubleToRawLongBits(301) : at == 4 ? 1 : at == 7 ? 45 : 301;
                CHECK.same("CONSTANT at " + at, types[at] < 7 ? got : loom.get((int) got, 0), due);
            }
        }
        CHECK.same("CONSTANTS of a NULL source: none, for NULL becomes NULL", loom.map(1, -1), -1);
    }

    /** "(without one: the one name of the property)". */
    private static void withoutAPath() {
        BeanLoom loom = new BeanLoom();
        loom.bean();
        loom.bean();
        for (int name = 0; name < 8; name++) {
            loom.property(15, name * 9, 3);
        }
        for (int name = 7; name >= 0; name--) {
            loom.property(16, name * 9, 3);
        }
        loom.method(15, 16);
        loom.build();
        int source = loom.make(15, 0);
        for (int at = 0; at < 8; at++) {
            loom.put(source, at, 100 + at);
        }
        int target = loom.map(0, source);
        for (int at = 0; at < 8; at++) {
            CHECK.same("by its name, not its place", loom.get(target, at), 107 - at);
        }
    }
}
