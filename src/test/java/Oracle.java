import java.math.BigDecimal;
import java.math.BigInteger;
import java.util.ArrayList;
import java.util.HashMap;
import java.util.List;
import java.util.Map;
import java.util.Set;
import java.util.TreeSet;

/** A second program by the same document, plain and recursive, to compare answers with. */
final class Oracle {
    static final class Type {
        char form; // 'e', 'b', 'l'
        int of;
        List<Integer> names = new ArrayList<>();
        List<Integer> types = new ArrayList<>();
    }

    record Rule(int kind, int target, long what) { }

    record Function(int from, int to, int a, int b) { }

    static final class Method {
        int from;
        int to;
        List<Rule> rules = new ArrayList<>();

        Rule latest(int kind) {
            Rule found = null;
            for (Rule r : rules) {
                if (r.kind == kind) {
                    found = r;
                }
            }
            return found;
        }

        Rule of(int kind, int target) {
            return rules.stream().filter(r -> r.kind == kind && r.target == target).findFirst().orElse(null);
        }
    }

    static final class Thing {
        int type;
        List<Long> values = new ArrayList<>();
    }

    /** What a way to convert is: its name, and the number of a function or method. */
    record How(String name, int number) { }

    static final class Failing extends RuntimeException {
        private static final long serialVersionUID = 1L;
    }

    private final Map<Integer, Type> types = new HashMap<>();
    private int typeCount = 15;
    private final List<Method> methods = new ArrayList<>();
    private final List<Function> functions = new ArrayList<>();
    private List<Thing> things = new ArrayList<>();
    private boolean built;
    private int[] diagnosis = {0, -1, -1};
    private Map<List<Integer>, Integer> had;

    private boolean form(int type, char form) {
        return types.containsKey(type) && types.get(type).form == form;
    }

    private int add(char form) {
        Type t = new Type();
        t.form = form;
        types.put(typeCount, t);
        return typeCount++;
    }

    int enumeration(long names, int n) {
        if (n < 1 || n > 8) {
            throw new IllegalArgumentException();
        }
        List<Integer> list = new ArrayList<>();
        for (int i = 0; i < n; i++) {
            int name = BigInteger.valueOf(names).shiftRight(8 * i).and(BigInteger.valueOf(255)).intValue();
            if (name > 63 || list.contains(name)) {
                throw new IllegalArgumentException();
            }
            list.add(name);
        }
        if (built || typeCount == 40) {
            throw new IllegalStateException();
        }
        int type = add('e');
        types.get(type).names.addAll(list);
        return type;
    }

    int bean() {
        if (built || typeCount == 40) {
            throw new IllegalStateException();
        }
        return add('b');
    }

    int property(int bean, int name, int type) {
        if (!form(bean, 'b') || name < 0 || name > 63 || type < 0 || type >= typeCount
                || types.get(bean).names.contains(name)) {
            throw new IllegalArgumentException();
        }
        if (built || types.get(bean).names.size() == 8 || !things.isEmpty()) {
            throw new IllegalStateException();
        }
        types.get(bean).names.add(name);
        types.get(bean).types.add(type);
        return types.get(bean).names.size() - 1;
    }

    int list(int of) {
        if (of < 7 || of >= typeCount) {
            throw new IllegalArgumentException();
        }
        for (int t = 15; t < typeCount; t++) {
            if (form(t, 'l') && types.get(t).of == of) {
                return t;
            }
        }
        if (built || typeCount == 40) {
            throw new IllegalStateException();
        }
        int type = add('l');
        types.get(type).of = of;
        return type;
    }

    int method(int from, int to) {
        if (!(form(from, 'b') && form(to, 'b') || form(from, 'e') && form(to, 'e'))) {
            throw new IllegalArgumentException();
        }
        if (built || methods.size() == 16) {
            throw new IllegalStateException();
        }
        Method m = new Method();
        m.from = from;
        m.to = to;
        methods.add(m);
        return methods.size() - 1;
    }

    int function(int from, int to, int a, int b) {
        for (int t : new int[] {from, to}) {
            if (t < 0 || t > 13 || t == 6 || t == 13) {
                throw new IllegalArgumentException();
            }
        }
        if (built || functions.size() == 8) {
            throw new IllegalStateException();
        }
        functions.add(new Function(from, to, a, b));
        return functions.size() - 1;
    }

    void rule(int method, int kind, int target, long what) {
        if (method < 0 || method >= methods.size() || kind < 0 || kind > 8) {
            throw new IllegalArgumentException();
        }
        if (built || methods.get(method).rules.size() == 24) {
            throw new IllegalStateException();
        }
        methods.get(method).rules.add(new Rule(kind, target, what));
    }

    int build() {
        if (built) {
            throw new IllegalStateException();
        }
        diagnosis = diagnose();
        if (diagnosis[0] != 0) {
            throw new IllegalArgumentException();
        }
        built = true;
        return methods.size();
    }

    int diagnosis(int what) {
        return what < 0 || what > 2 ? -1 : diagnosis[what];
    }

    private Method inverse(Method m) {
        Rule r = m.latest(7);
        return r == null || r.what < 0 || r.what >= methods.size() ? null : methods.get((int) r.what);
    }

    private int[] diagnose() {
        for (int i = 0; i < methods.size(); i++) {
            Method m = methods.get(i);
            Rule inv = m.latest(7);
            if (inv != null) {
                if (inv.what < 0 || inv.what >= methods.size()) {
                    return new int[] {1, i, -1};
                }
                Method o = methods.get((int) inv.what);
                if (o.from != m.to || o.to != m.from || o.latest(7) != null) {
                    return new int[] {1, i, -1};
                }
            }
            for (int r = 0; r < m.rules.size(); r++) {
                int fault = ruleFault(m, r);
                if (fault != 0) {
                    return new int[] {fault, i, r};
                }
            }
            Type t = types.get(form(m.to, 'b') ? m.to : m.from);
            for (int p = 0; p < t.names.size(); p++) {
                int fault = form(m.to, 'b') ? propertyFault(m, t.names.get(p), t.types.get(p))
                        : becomes(m, t.names.get(p)) == null ? 5 : 0;
                if (fault != 0) {
                    return new int[] {fault, i, p};
                }
            }
        }
        return new int[] {0, -1, -1};
    }

    /** Whether a rule of a method of beans, told now, would bring no fault. */
    boolean fits(int method, int kind, int target, long what) {
        Method m = methods.get(method);
        m.rules.add(new Rule(kind, target, what));
        int place = types.get(m.to).names.indexOf(target);
        boolean fits = ruleFault(m, m.rules.size() - 1) == 0 && place >= 0 && (inverse(m) == null || inverse(m).latest(7) == null)
                && propertyFault(m, target, types.get(m.to).types.get(place)) == 0;
        m.rules.remove(m.rules.size() - 1);
        return fits;
    }

    private int ruleFault(Method m, int index) {
        Rule r = m.rules.get(index);
        for (int j = 0; j < index; j++) {
            Rule e = m.rules.get(j);
            if (r.kind <= 5 && e.target == r.target && (e.kind == r.kind || e.kind <= 2 && r.kind <= 2)) {
                return 2;
            }
        }
        List<Integer> fromNames = types.get(m.from).names;
        List<Integer> toNames = types.get(m.to).names;
        boolean beans = form(m.from, 'b');
        if (r.kind <= 4 && !(beans && toNames.contains(r.target))) {
            return 3;
        }
        if (r.kind == 5 && !(!beans && fromNames.contains(r.target))) {
            return 3;
        }
        boolean constant = r.what >= 0 && r.what <= 63 && toNames.contains((int) r.what);
        boolean good = switch (r.kind) {
            case 0 -> endOf(m.from, names(r.what)) != -1;
            case 4 -> r.what >= 0 && r.what < functions.size();
            case 5 -> constant || r.what == -1;
            case 6 -> !beans && (constant || r.what == -1 || r.what == -2);
            case 8 -> beans;
            default -> true;
        };
        return good ? 0 : 4;
    }

    private List<Integer> names(long path) {
        List<Integer> names = new ArrayList<>();
        for (int i = 0; i < 3; i++) {
            int b = (int) (path >>> 8 * i & 0xff);
            if (b == 0) {
                break;
            }
            names.add(b - 1);
        }
        return names;
    }

    /** The type at a path's end, -1 if it does not go. */
    private int endOf(int bean, List<Integer> path) {
        int type = bean;
        for (int name : path) {
            if (!form(type, 'b') || !types.get(type).names.contains(name)) {
                return -1;
            }
            type = types.get(type).types.get(types.get(type).names.indexOf(name));
        }
        return path.isEmpty() ? -1 : type;
    }

    private List<Integer> path(Method m, int name) {
        Rule own = m.of(0, name);
        if (own != null) {
            return names(own.what);
        }
        Method o = inverse(m);
        if (o != null) {
            for (Rule r : o.rules) {
                if (r.kind == 0 && names(r.what).equals(List.of(name))) {
                    if (types.get(m.from).names.contains(r.target)) {
                        return List.of(r.target);
                    }
                    break;
                }
            }
        }
        return List.of(name);
    }

    private int propertyFault(Method m, int name, int type) {
        if (m.of(2, name) != null) {
            return 0;
        }
        if (m.of(1, name) != null) {
            return fault(how(4, type));
        }
        int from = endOf(m.from, path(m, name));
        if (from == -1) {
            return 5;
        }
        Rule by = m.of(4, name);
        if (by != null) {
            Function f = by.what < 0 || by.what >= functions.size() ? null : functions.get((int) by.what);
            if (f == null || f.from != from || f.to != type) {
                return 6;
            }
        } else if (fault(how(from, type)) != 0) {
            return fault(how(from, type));
        }
        return m.of(3, name) == null ? 0 : fault(how(4, type));
    }

    private int fault(How how) {
        return how.name.equals("none") ? 6 : how.name.equals("ambiguous") ? 7 : 0;
    }

    /** A constant's name, -1 for NULL, -2 for what fails, null for what nothing says. */
    private Integer becomes(Method m, int name) {
        Rule own = m.of(5, name);
        if (own != null) {
            return (int) own.what;
        }
        Method o = inverse(m);
        List<Integer> toNames = types.get(m.to).names;
        if (o != null) {
            for (Rule r : o.rules) {
                if (r.kind == 5 && r.what == name) {
                    if (toNames.contains(r.target)) {
                        return r.target;
                    }
                    break;
                }
            }
        }
        if (toNames.contains(name)) {
            return name;
        }
        Rule others = m.latest(6);
        return others == null ? null : (Integer) (int) others.what;
    }

    private static int kind(int type) {
        return type < 0 || type > 13 ? -1 : type % 7;
    }

    private boolean table(int a, int b) {
        int ka = kind(a);
        int kb = kind(b);
        if (ka >= 0 && kb >= 0) {
            return ka == kb || ka != 5 && kb != 5;
        }
        if (b == 14) {
            return ka >= 0 && ka != 6 || form(a, 'e');
        }
        if (a == 14) {
            return kb >= 0 && kb != 6 || form(b, 'e');
        }
        return false;
    }

    private How how(int a, int b) {
        if (a == b) {
            return new How("same", -1);
        }
        Set<Integer> named = new TreeSet<>();
        for (Method m : methods) {
            for (Rule r : m.rules) {
                if (r.kind == 4 && r.what >= 0 && r.what < functions.size()) {
                    named.add((int) r.what);
                }
            }
        }
        List<How> exact = new ArrayList<>();
        List<How> over = new ArrayList<>();
        List<How> byMethod = new ArrayList<>();
        for (int f = 0; f < functions.size(); f++) {
            if (!named.contains(f) && functions.get(f).to == b) {
                if (functions.get(f).from == a) {
                    exact.add(new How("function", f));
                } else if (table(a, functions.get(f).from)) {
                    over.add(new How("function", f));
                }
            }
        }
        for (int m = 0; m < methods.size(); m++) {
            if (methods.get(m).from == a && methods.get(m).to == b) {
                byMethod.add(new How("method", m));
            }
        }
        for (List<How> found : List.of(exact, byMethod, table(a, b) ? List.of(new How("table", -1)) : List.<How>of(),
                over)) {
            if (!found.isEmpty()) {
                return found.size() > 1 ? new How("ambiguous", -1) : found.get(0);
            }
        }
        if (form(a, 'l') && form(b, 'l')) {
            How inner = how(types.get(a).of, types.get(b).of);
            return fault(inner) == 0 ? new How("list", -1) : inner;
        }
        return new How("none", -1);
    }

    int make(int type, long v) {
        boolean box = type >= 7 && type <= 13;
        if (!box && type != 14 && !form(type, 'b') && !form(type, 'l') || box && !isValue(type - 7, v)) {
            throw new IllegalArgumentException();
        }
        if (things.size() == 400) {
            throw new IllegalStateException();
        }
        int t = create(type);
        if (box) {
            things.get(t).values.add(v);
        }
        if (type == 14) {
            for (int i = 0; i < 8 && (v >>> 8 * i & 255) != 0; i++) {
                things.get(t).values.add(v >>> 8 * i & 255);
            }
        }
        return t;
    }

    private int create(int type) {
        if (things.size() == 400) {
            throw new Failing();
        }
        Thing t = new Thing();
        t.type = type;
        if (form(type, 'b')) {
            for (int p : types.get(type).types) {
                t.values.add(empty(p));
            }
        }
        things.add(t);
        return things.size() - 1;
    }

    private static long empty(int type) {
        return type <= 6 ? 0 : -1;
    }

    private static boolean isNull(int type, long v) {
        return type > 6 && v == -1;
    }

    private static final long[][] RANGES = {{Byte.MIN_VALUE, Byte.MAX_VALUE}, {Short.MIN_VALUE, Short.MAX_VALUE},
        {0, 65535}, {Integer.MIN_VALUE, Integer.MAX_VALUE}, {Long.MIN_VALUE, Long.MAX_VALUE}, {0, 1}};

    private boolean isValue(int type, long v) {
        if (type == 6) {
            return !Double.isNaN(Double.longBitsToDouble(v));
        }
        if (type < 6) {
            return v >= RANGES[type][0] && v <= RANGES[type][1];
        }
        if (v == -1) {
            return true;
        }
        if (form(type, 'e')) {
            return v >= 0 && v < types.get(type).names.size();
        }
        return v >= 0 && v < things.size() && things.get((int) v).type == type;
    }

    boolean put(int object, int at, long v) {
        if (object < 0 || object >= things.size()) {
            return false;
        }
        Thing t = things.get(object);
        if (form(t.type, 'b')) {
            if (at < 0 || at >= t.values.size() || !isValue(types.get(t.type).types.get(at), v)) {
                return false;
            }
            t.values.set(at, v);
            return true;
        }
        if (form(t.type, 'l') && isValue(types.get(t.type).of, v) && t.values.size() < 16) {
            t.values.add(v);
            return true;
        }
        return false;
    }

    int map(int method, int v) {
        if (method < 0 || method >= methods.size() || !isValue(methods.get(method).from, v)) {
            throw new IllegalArgumentException();
        }
        if (!built) {
            throw new IllegalStateException();
        }
        List<Thing> before = new ArrayList<>(things);
        had = new HashMap<>();
        try {
            return (int) byMethod(method, v);
        } catch (Failing e) {
            things = before;
            throw new UnsupportedOperationException();
        }
    }

    private long byMethod(int number, long v) {
        Method m = methods.get(number);
        if (form(m.from, 'e')) {
            if (v == -1) {
                return -1;
            }
            int name = becomes(m, types.get(m.from).names.get((int) v));
            if (name == -2) {
                throw new Failing();
            }
            return name == -1 ? -1 : types.get(m.to).names.indexOf(name);
        }
        if (v == -1) {
            Rule r = m.latest(8);
            return r != null && r.what == 1 ? create(m.to) : -1;
        }
        List<Integer> key = List.of(number, (int) v);
        if (had.containsKey(key)) {
            return had.get(key);
        }
        int target = create(m.to);
        had.put(key, target);
        Type t = types.get(m.to);
        for (int p = 0; p < t.names.size(); p++) {
            Long value = property(m, (int) v, t.names.get(p), t.types.get(p));
            if (value != null) {
                things.get(target).values.set(p, value);
            }
        }
        return target;
    }

    /** A property's value, or null for nothing. */
    private Long property(Method m, int source, int name, int type) {
        if (m.of(2, name) != null) {
            return null;
        }
        if (m.of(1, name) != null) {
            return become(how(4, type), 4, type, m.of(1, name).what);
        }
        List<Integer> path = path(m, name);
        long at = source;
        int atType = m.from;
        boolean broken = false;
        for (int step : path) {
            if (at == -1) {
                broken = true;
                break;
            }
            int place = types.get(atType).names.indexOf(step);
            at = things.get((int) at).values.get(place);
            atType = types.get(atType).types.get(place);
        }
        Rule otherwise = m.of(3, name);
        if ((broken || isNull(atType, at)) && otherwise != null) {
            return become(how(4, type), 4, type, otherwise.what);
        }
        if (broken) {
            return null;
        }
        Rule by = m.of(4, name);
        return become(by != null ? new How("function", (int) by.what) : how(atType, type), atType, type, at);
    }

    private long become(How how, int a, int b, long v) {
        switch (how.name) {
            case "same":
                return v;
            case "method":
                return byMethod(how.number, v);
            case "list":
                if (v == -1) {
                    return -1;
                }
                int list = create(b);
                int from = types.get(a).of;
                int to = types.get(b).of;
                for (long each : things.get((int) v).values) {
                    things.get(list).values.add(become(how(from, to), from, to, each));
                }
                return list;
            case "function":
                if (isNull(a, v)) {
                    return empty(b);
                }
                Function f = functions.get(how.number);
                long x = number(a, kind(f.from), v);
                return boxed(b, castWhole(kind(b), BigInteger.valueOf(x).multiply(BigInteger.valueOf(f.a))
                        .add(BigInteger.valueOf(f.b)).longValue()));
            case "table":
                if (isNull(a, v)) {
                    return empty(b);
                }
                if (b == 14) {
                    return text(toText(a, v));
                }
                if (form(b, 'e')) {
                    for (int name : types.get(b).names) {
                        if (textOf(v).equals("n" + name)) {
                            return types.get(b).names.indexOf(name);
                        }
                    }
                    throw new Failing();
                }
                return boxed(b, number(a, kind(b), v));
            default:
                throw new AssertionError(how.name);
        }
    }

    private String textOf(long v) {
        StringBuilder s = new StringBuilder();
        for (long c : things.get((int) v).values) {
            s.append((char) c);
        }
        return s.toString();
    }

    private long text(String s) {
        int t = create(14);
        for (char c : s.toCharArray()) {
            things.get(t).values.add((long) c);
        }
        return t;
    }

    private String toText(int a, long v) {
        if (form(a, 'e')) {
            return "n" + types.get(a).names.get((int) v);
        }
        long x = a > 6 ? things.get((int) v).values.get(0) : v;
        return kind(a) == 5 ? String.valueOf(x == 1) : kind(a) == 2 ? String.valueOf((char) x) : String.valueOf(x);
    }

    private long boxed(int b, long x) {
        if (b <= 6) {
            return x;
        }
        int box = create(b);
        things.get(box).values.add(x);
        return box;
    }

    private long number(int a, int kind, long v) {
        if (a == 14) {
            return parsed(textOf(v), kind);
        }
        long x = a > 6 ? things.get((int) v).values.get(0) : v;
        if (kind(a) != 6) {
            return castWhole(kind, x);
        }
        double d = Double.longBitsToDouble(x);
        return switch (kind) {
            case 0 -> (byte) d;
            case 1 -> (short) d;
            case 2 -> (char) d;
            case 3 -> (int) d;
            case 4 -> (long) d;
            case 6 -> x;
            default -> throw new AssertionError();
        };
    }

    private static long castWhole(int kind, long x) {
        return switch (kind) {
            case 0 -> (byte) x;
            case 1 -> (short) x;
            case 2 -> (char) x;
            case 3 -> (int) x;
            case 4 -> x;
            case 5 -> Math.floorMod(x, 2L);
            default -> Double.doubleToRawLongBits(new BigDecimal(x).doubleValue());
        };
    }

    private long parsed(String s, int kind) {
        if (kind == 5) {
            return s.equals("true") ? 1 : 0;
        }
        if (kind == 2) {
            if (s.length() != 1) {
                throw new Failing();
            }
            return s.charAt(0);
        }
        if (!s.matches("-?[0-9]+")) {
            throw new Failing();
        }
        BigInteger x = new BigInteger(s);
        if (x.compareTo(BigInteger.valueOf(RANGES[kind][0])) < 0 || x.compareTo(BigInteger.valueOf(RANGES[kind][1])) > 0) {
            throw new Failing();
        }
        return x.longValue();
    }

    long get(int object, int at) {
        if (object < 0 || object >= things.size() || at < 0 || at >= things.get(object).values.size()) {
            throw new IndexOutOfBoundsException();
        }
        return things.get(object).values.get(at);
    }

    int about(int object, int what) {
        if (object < 0 || object >= things.size() || what < 0 || what > 1) {
            throw new IndexOutOfBoundsException();
        }
        return what == 0 ? things.get(object).type : things.get(object).values.size();
    }

    int count(int what) {
        return switch (what) {
            case 0 -> typeCount;
            case 1 -> methods.size();
            case 2 -> functions.size();
            case 3 -> things.size();
            case 4 -> built ? 1 : 0;
            default -> -1;
        };
    }
}
