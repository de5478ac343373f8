import java.util.ArrayList;
import java.util.HashMap;
import java.util.HashSet;
import java.util.List;
import java.util.Map;
import java.util.Random;
import java.util.Set;

/** Random runs of calls on a BeanLoom and on the Oracle, each answer compared. Arguments: first seed, how many. */
public final class OracleTest {
    interface Call {
        long answer();
    }

    private static final long[] NUMBERS = {0, 1, -1, 2, 5, 9, 10, 48, 65, 100, 127, 128, -128, -129, 255, 256, 32767,
        32768, -32768, -32769, 65535, 65536, 2147483647L, 2147483648L, -2147483648L, -2147483649L, 1L << 53,
        (1L << 53) + 1, (1L << 54) + 2, (1L << 54) + 6, 4503599627370497L, 1234567890123456789L, Long.MAX_VALUE,
        Long.MIN_VALUE, Long.MIN_VALUE + 1, 999999999999999999L};
    private static final double[] REALS = {0, -0.0, 1, -1, 0.5, -0.5, 0.999999, 127.9, -128.5, 129, 32768, 65535.5, 1e5,
        2147483647.5, 2147483648.0, -2147483648.9, -2147483649.0, 1e18, 9.2e18, 9.3e18, -9.3e18, 1e300, -1e300,
        Double.MAX_VALUE, Double.MIN_VALUE, Double.POSITIVE_INFINITY, Double.NEGATIVE_INFINITY, 4503599627370497.5};
    private static final String[] WORDS = {"", "0", "-0", "7", "007", "-5", "-", "--5", "+5", "5 ", "true", "True",
        "false", "truer", "a", "n1", "n2", "n01", "n5", "n12", "n63", "n", "127", "128", "-128", "-129", "32767",
        "32768", "-32769", "65535", "2147483", "99999999", "1e5", "\u00e9", "\u00ff\u00fe", "12345678", "-1234567"};

    private final Random random;
    private final BeanLoom loom = new BeanLoom();
    private final Oracle oracle = new Oracle();
    private final long seed;
    private final List<Integer> beans = new ArrayList<>();
    private final List<Integer> enums = new ArrayList<>();
    private final List<Integer> lists = new ArrayList<>();
    private final Map<Integer, Integer> elements = new HashMap<>();
    private final List<int[]> properties = new ArrayList<>(); // bean, name, type
    private final List<int[]> functions = new ArrayList<>(); // from, to
    private final Map<Integer, List<Integer>> constants = new HashMap<>();
    private final Set<List<Integer>> told = new HashSet<>();
    private final List<int[]> methods = new ArrayList<>(); // from, to
    private int calls;
    static int builds;
    static int maps;
    static int failures;
    static int spent;
    static int madeByMaps;
    static final int[] faults = new int[8];

    private OracleTest(long seed) {
        this.seed = seed;
        random = new Random(seed);
    }

    /** A loom stands for 512 calls: a run ends there. */
    private static final class Spent extends RuntimeException {
        private static final long serialVersionUID = 1L;
    }

    private static String outcome(Call call) {
        try {
            return "" + call.answer();
        } catch (IllegalArgumentException | IllegalStateException | UnsupportedOperationException
                | IndexOutOfBoundsException e) {
            return e.getClass().getSimpleName();
        }
    }

    private String both(String what, Call a, Call b) {
        if (calls >= 512) {
            throw new Spent();
        }
        calls++;
        String got = outcome(a);
        String due = outcome(b);
        if (!got.equals(due)) {
            throw new AssertionError("seed " + seed + ", call " + calls + ", " + what + ": " + got + ", due is " + due);
        }
        return got;
    }

    private boolean chance(int percent) {
        return random.nextInt(100) < percent;
    }

    private <T> T any(List<T> list) {
        return list.get(random.nextInt(list.size()));
    }

    private int name() {
        return chance(95) ? random.nextInt(7) : chance(50) ? random.nextInt(64) : random.nextInt(70) - 3;
    }

    private int type() {
        int count = oracle.count(0);
        if (chance(3)) {
            return random.nextInt(count + 4) - 2;
        }
        if (count > 15 && chance(50)) {
            return 15 + random.nextInt(count - 15);
        }
        return random.nextInt(15);
    }

    private long number() {
        return chance(70) ? NUMBERS[random.nextInt(NUMBERS.length)]
                : chance(50) ? random.nextLong() >> random.nextInt(64) : random.nextInt(20) - 2;
    }

    private void tellType() {
        int what = random.nextInt(10);
        if (what < 2) {
            int n = chance(95) ? 1 + random.nextInt(5) : random.nextInt(12) - 1;
            long names = 0;
            for (int i = 0; i < 8; i++) {
                names |= (long) (chance(97) ? random.nextInt(14) : random.nextInt(256)) << 8 * i;
            }
            long given = names;
            String got = both("enumeration(" + names + ", " + n + ")", () -> loom.enumeration(given, n),
                    () -> oracle.enumeration(given, n));
            if (got.length() < 3) {
                enums.add(Integer.parseInt(got));
                List<Integer> list = new ArrayList<>();
                for (int i = 0; i < n; i++) {
                    list.add((int) (given >>> 8 * i) & 255);
                }
                constants.put(Integer.parseInt(got), list);
            }
        } else if (what < 5) {
            String got = both("bean()", loom::bean, oracle::bean);
            if (got.length() < 3) {
                beans.add(Integer.parseInt(got));
            }
        } else {
            int of = type();
            String got = both("list(" + of + ")", () -> loom.list(of), () -> oracle.list(of));
            if (got.length() < 3) {
                lists.add(Integer.parseInt(got));
                elements.put(Integer.parseInt(got), of);
            }
        }
    }

    private void tellProperty() {
        int bean = chance(97) ? any(beans) : type();
        int name = name();
        int type = type();
        String got = both("property(" + bean + ", " + name + ", " + type + ")", () -> loom.property(bean, name, type),
                () -> oracle.property(bean, name, type));
        if (got.length() < 2) {
            properties.add(new int[] {bean, name, type});
        }
    }

    private void tellMethod() {
        List<Integer> kind = chance(75) || enums.isEmpty() ? beans : enums;
        int from = chance(99) ? any(kind) : type();
        int to = chance(99) ? any(kind) : type();
        String got = both("method(" + from + ", " + to + ")", () -> loom.method(from, to),
                () -> oracle.method(from, to));
        if (got.length() < 3) {
            methods.add(new int[] {from, to});
        }
    }

    private void tellFunction() {
        int from = chance(97) ? random.nextInt(14) : type();
        int to = chance(97) ? random.nextInt(14) : type();
        int a = random.nextInt(7) - 3;
        int b = chance(80) ? random.nextInt(100) - 50 : random.nextInt();
        String got = both("function(" + from + ", " + to + ", " + a + ", " + b + ")",
                () -> loom.function(from, to, a, b), () -> oracle.function(from, to, a, b));
        if (got.length() < 2) {
            functions.add(new int[] {from, to});
        }
    }

    private void tell(int method, int kind, int target, long what) {
        both("rule(" + method + ", " + kind + ", " + target + ", " + what + ")", () -> {
            loom.rule(method, kind, target, what);
            return 0;
        }, () -> {
            oracle.rule(method, kind, target, what);
            return 0;
        });
    }

    private int propertyName(int bean) {
        List<Integer> names = new ArrayList<>();
        for (int[] p : properties) {
            if (p[0] == bean) {
                names.add(p[1]);
            }
        }
        return names.isEmpty() || chance(1) ? name() : any(names);
    }

    private long path(int bean) {
        long path = 0;
        int at = bean;
        int most = 1 + random.nextInt(3);
        for (int i = 0; i < most; i++) {
            int name = propertyName(at);
            path |= (long) (name + 1 & 255) << 8 * i;
            int next = -1;
            for (int[] p : properties) {
                if (p[0] == at && p[1] == name) {
                    next = p[2];
                }
            }
            at = next;
            if (!beans.contains(at)) {
                break;
            }
        }
        return chance(99) ? path : chance(50) ? path | (long) random.nextInt(256) << 24 : random.nextInt(1 << 24);
    }

    private void tellRule(boolean clean) {
        int method = chance(99) && !methods.isEmpty() ? random.nextInt(methods.size()) : random.nextInt(18) - 1;
        if (method < 0 || method >= methods.size()) {
            tell(method, random.nextInt(9), name(), 0);
            return;
        }
        int[] m = methods.get(method);
        boolean ofBeans = beans.contains(m[0]);
        if (!clean && chance(4)) {
            tell(method, random.nextInt(12) - 1, name(), random.nextInt(12) - 3);
            return;
        }
        if (chance(10)) {
            int other = random.nextInt(methods.size());
            for (int i = 0; i < methods.size(); i++) {
                if (methods.get(i)[0] == m[1] && methods.get(i)[1] == m[0]) {
                    other = i;
                }
            }
            if (methods.get(other)[0] == m[1] && methods.get(other)[1] == m[0] && other != method || chance(5)) {
                tell(method, 7, name(), other);
            }
            return;
        }
        if (ofBeans) {
            if (chance(15) && oracle.count(2) > 0) {
                tellBy(method, m, clean);
                return;
            }
            int target = propertyName(m[1]);
            int kind = new int[] {0, 0, 0, 0, 1, 2, 3, 3, 3, 8}[random.nextInt(10)];
            long what = kind == 0 ? path(m[0]) : kind == 4 ? random.nextInt(Math.max(1, oracle.count(2)) + (chance(5) ? 1 : 0))
                    : kind == 8 ? random.nextInt(2) : number();
            if (!clean || kind == 8 || oracle.fits(method, kind, target, what)
                    && told.add(List.of(method, kind <= 2 ? 0 : kind, target))) {
                tell(method, kind, target, what);
            }
        } else {
            int kind = chance(70) ? 5 : 6;
            int target = clean ? constant(m[0]) : random.nextInt(14);
            if (clean && kind == 5 && !told.add(List.of(method, kind, target))) {
                return;
            }
            tell(method, kind, target, chance(75) ? clean ? constant(m[1]) : random.nextInt(14)
                    : clean && kind == 5 ? -1 : -1 - random.nextInt(2));
        }
    }

    private int constant(int type) {
        return any(constants.get(type));
    }

    /** A function that fits the path of the property, if one does. */
    private void tellBy(int method, int[] m, boolean clean) {
        int f = random.nextInt(oracle.count(2));
        for (int[] to : properties) {
            for (int[] from : properties) {
                if (to[0] == m[1] && from[0] == m[0] && to[2] == functions.get(f)[1] && from[2] == functions.get(f)[0]) {
                    if ((!clean || told.add(List.of(method, 4, to[1]))) && told.add(List.of(method, 0, to[1]))) {
                        tell(method, 4, to[1], f);
                        tell(method, 0, to[1], from[1] + 1);
                    }
                    return;
                }
            }
        }
        if (chance(10)) {
            tell(method, 4, propertyName(m[1]), f + (chance(10) ? 1 : 0));
        }
    }

    /** Builds; mends what can be mended by a further rule, and builds again. */
    private boolean build() {
        for (int turn = 0; turn < 60; turn++) {
            String got = both("build()", loom::build, oracle::build);
            boolean beyond = chance(10);
            for (int what = beyond ? -1 : 0; what < (beyond ? 4 : 3); what++) {
                int w = what;
                both("diagnosis(" + w + ")", () -> loom.diagnosis(w), () -> oracle.diagnosis(w));
            }
            if (!got.startsWith("Ill")) {
                return true;
            }
            faults[oracle.diagnosis(0)]++;
            if (oracle.diagnosis(0) < 5) {
                return false;
            }
            int method = oracle.diagnosis(1);
            int place = oracle.diagnosis(2);
            int[] m = methods.get(method);
            if (enums.contains(m[0])) {
                tell(method, 6, 0, -1 - random.nextInt(2));
                continue;
            }
            int seen = 0;
            for (int[] p : properties) {
                if (p[0] == m[1] && seen++ == place) {
                    mend(method, m[0], p[1]);
                }
            }
        }
        return false;
    }

    private void mend(int method, int from, int target) {
        for (int turn = 0; turn < 12; turn++) {
            int kind = chance(85) ? 0 : 1;
            long what = kind == 0 ? path(from) : number();
            if (told.add(List.of(method, 0, target))) {
                if (oracle.fits(method, kind, target, what)) {
                    tell(method, kind, target, what);
                    return;
                }
                told.remove(List.of(method, 0, target));
            }
        }
        tell(method, 2, target, 0);
    }

    /** An object of a type, or a new one, filled. */
    private long fresh(int type, int depth) {
        make(type);
        int object = oracle.count(3) - 1;
        if (object < 0 || oracle.about(object, 0) != type) {
            return -1;
        }
        int many = lists.contains(type) ? random.nextInt(chance(5) ? 18 : 5) : oracle.about(object, 1);
        for (int at = 0; at < many && type > 14; at++) {
            int wanted = elements.getOrDefault(type, -1);
            int seen = 0;
            for (int[] p : properties) {
                wanted = p[0] == type && seen++ == at ? p[2] : wanted;
            }
            boolean object2 = wanted > 6 && !enums.contains(wanted);
            long v = object2 && depth > 0 && chance(70) ? fresh(wanted, depth - 1) : valueFor(wanted);
            int place = at;
            both("put(" + object + ", " + at + ", " + v + ")", () -> loom.put(object, place, v) ? 1 : 0,
                    () -> oracle.put(object, place, v) ? 1 : 0);
        }
        return object;
    }

    private long valueFor(int type) {
        if (type < 0 || chance(3)) {
            return random.nextInt(30) - 3;
        }
        if (type == 6) {
            return Double.doubleToRawLongBits(REALS[random.nextInt(REALS.length)]);
        }
        if (type < 6) {
            for (int turn = 0; turn < 20; turn++) {
                long v = number();
                if (type == 4 || type == 5 && v >= 0 && v <= 1 || type == 3 && v == (int) v || type == 2 && v == (char) v
                        || type == 1 && v == (short) v || type == 0 && v == (byte) v) {
                    return v;
                }
            }
            return random.nextInt(2);
        }
        if (enums.contains(type)) {
            return random.nextInt(5) - 1;
        }
        if (chance(12)) {
            return -1;
        }
        List<Integer> fitting = new ArrayList<>();
        for (int i = 0; i < oracle.count(3); i++) {
            if (oracle.about(i, 0) == type) {
                fitting.add(i);
            }
        }
        return fitting.isEmpty() ? -1 : any(fitting);
    }

    private void make() {
        int type = chance(60) ? 7 + random.nextInt(8) : chance(70) && !beans.isEmpty() ? any(beans)
                : !lists.isEmpty() ? any(lists) : type();
        make(type);
    }

    private void make(int type) {
        long v;
        if (type == 14) {
            String word = WORDS[random.nextInt(WORDS.length)];
            v = 0;
            for (int i = 0; i < word.length() && i < 8; i++) {
                v |= (long) word.charAt(i) << 8 * i;
            }
            v = chance(95) ? v : random.nextLong();
        } else {
            v = type >= 7 && type <= 13 ? valueFor(type - 7) : number();
        }
        long given = v;
        both("make(" + type + ", " + v + ")", () -> loom.make(type, given), () -> oracle.make(type, given));
    }

    private void put() {
        int object = random.nextInt(Math.max(1, oracle.count(3) + (chance(5) ? 2 : 0)));
        if (object >= oracle.count(3)) {
            both("put beyond", () -> loom.put(object, 0, 0) ? 1 : 0, () -> oracle.put(object, 0, 0) ? 1 : 0);
            return;
        }
        int type = oracle.about(object, 0);
        int at = chance(96) ? random.nextInt(Math.max(1, oracle.about(object, 1))) : random.nextInt(12) - 2;
        int wanted = -1;
        int seen = 0;
        for (int[] p : properties) {
            if (p[0] == type && seen++ == at) {
                wanted = p[2];
            }
        }
        wanted = elements.getOrDefault(type, wanted);
        long v = valueFor(wanted);
        both("put(" + object + ", " + at + ", " + v + ")", () -> loom.put(object, at, v) ? 1 : 0,
                () -> oracle.put(object, at, v) ? 1 : 0);
    }

    private void map() {
        int method = methods.isEmpty() || chance(2) ? random.nextInt(18) - 1 : random.nextInt(methods.size());
        int v = method < 0 || method >= methods.size() || chance(3) ? random.nextInt(20) - 3
                : (int) valueFor(methods.get(method)[0]);
        int before = oracle.count(3);
        String got = both("map(" + method + ", " + v + ")", () -> loom.map(method, v), () -> oracle.map(method, v));
        maps++;
        failures += got.startsWith("Unsupported") ? 1 : 0;
        madeByMaps += oracle.count(3) - before;
        if (chance(10)) {
            compareFrom(-1);
        } else if (got.startsWith("Unsupported")) {
            both("count(3)", () -> loom.count(3), () -> oracle.count(3));
        } else {
            compareFrom(before);
        }
    }

    /** All that there is of a state, but of the objects just those from a number on. */
    private void compareFrom(int first) {
        for (int what = -1; what < 6; what++) {
            int w = what;
            if (first < 0 || w == 3) {
                both("count(" + w + ")", () -> loom.count(w), () -> oracle.count(w));
            }
        }
        for (int object = first; object <= oracle.count(3); object++) {
            int o = object;
            for (int what = first < 0 ? -1 : 0; what < (first < 0 ? 3 : 2); what++) {
                int w = what;
                both("about(" + o + ", " + w + ")", () -> loom.about(o, w), () -> oracle.about(o, w));
            }
            int length = object < 0 || object >= oracle.count(3) ? 0 : oracle.about(object, 1);
            for (int at = first < 0 ? -1 : 0; at < (first < 0 ? length + 1 : length); at++) {
                int a = at;
                both("get(" + o + ", " + a + ")", () -> loom.get(o, a), () -> oracle.get(o, a));
            }
        }
    }

    private void run() {
        boolean clean = chance(80);
        for (int i = 2 + random.nextInt(3); i > 0; i--) {
            beans.add(Integer.parseInt(both("bean()", loom::bean, oracle::bean)));
        }
        for (int i = random.nextInt(chance(5) ? 40 : 9); i > 0; i--) {
            tellType();
        }
        for (int i = random.nextInt(30); i > 0; i--) {
            tellProperty();
        }
        for (int i = random.nextInt(chance(10) ? 10 : 3); i > 0; i--) {
            tellFunction();
        }
        for (int i = 1 + random.nextInt(chance(10) ? 18 : 5); i > 0; i--) {
            tellMethod();
        }
        for (int i = chance(10) ? 30 : 0; i > 0; i--) {
            make();
        }
        for (int i = random.nextInt(methods.isEmpty() ? 1 : 4 * methods.size()); i > 0; i--) {
            tellRule(clean);
        }
        if (chance(10)) {
            map();
        }
        boolean stands = build();
        if (stands) {
            builds++;
        }
        if (chance(20)) {
            tellType();
            tellProperty();
            tellMethod();
            tellFunction();
            tellRule(false);
            both("build()", loom::build, oracle::build);
        }
        for (int[] m : methods) {
            if (beans.contains(m[0]) && oracle.count(3) < 150) {
                fresh(m[0], random.nextInt(4));
            }
        }
        if (!stands && chance(80)) {
            compareFrom(-1);
            return;
        }
        boolean crowded = chance(10);
        for (int i = 20 + random.nextInt(120); i > 0; i--) {
            int what = random.nextInt(20);
            if (what < 3 || crowded && what < 8) {
                make();
            } else if (what < 14) {
                put();
            } else {
                map();
            }
        }
        for (int i = 0; i < 12; i++) {
            map();
        }
    }

    public static void main(String[] args) {
        long first = args.length > 0 ? Long.parseLong(args[0]) : 1;
        long many = args.length > 1 ? Long.parseLong(args[1]) : 8000;
        for (long seed = first; seed < first + many; seed++) {
            try {
                new OracleTest(seed).run();
            } catch (Spent e) {
                spent++;
            } catch (AssertionError e) {
                System.out.println(e.getMessage());
                System.exit(1);
            }
        }
        StringBuilder told = new StringBuilder();
        for (int fault = 1; fault < 8; fault++) {
            told.append(' ').append(faults[fault]);
        }
        System.out.println(many + " runs, " + spent + " of 512 calls, " + builds + " built, " + maps + " maps, " + failures + " of them failed, "
                + madeByMaps + " objects made by maps, diagnoses" + told);
        if (builds < many / 4 || failures < many / 20 || madeByMaps < maps / 2) {
            System.out.println("the runs look at too little");
            System.exit(1);
        }
    }
}
